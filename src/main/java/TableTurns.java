import java.util.Arrays;
import java.util.NoSuchElementException;

/** A commune where one eats for all; what each call answers is said in ../shared/DOC.md. */
public final class TableTurns {
    public static final int NONE = -1;

    private static final int OTHERWISE = -2;
    private static final int MOST_SIGNS = 1000;
    private static final int MOST_PEOPLE = 6;
    private static final int MOST_DISHES = 5;
    private static final int MOST_LINES = 40;
    private static final int MOST_UNDONE = 16;
    private static final int MOST_MARKS = 4;
    private static final int MOST_FULL = 99;
    private static final int FULL_AT_FIRST = 50;
    private static final int LONGEST_LAST = 60;
    private static final int MOST_BITES = 5;

    private static final int GREEDY = 1;
    private static final int LOVED = 2;
    private static final int OLD = 3;

    private static final int CANT_STAND = 1;
    private static final int NOT_TOLD = 2;
    private static final int TOLD_ALREADY = 3;
    private static final int WRONG_NUMBER = 4;
    private static final int TOO_MANY = 5;

    private final Tape tape = new Tape();
    private final CommuneReader reader = new CommuneReader();
    private Commune commune = new Commune();
    private Commune spareCommune = new Commune();
    private Weeks weeks = new Weeks();
    private Weeks spareWeeks = new Weeks();
    private final Standing now = new Standing();
    private final Standing trial = new Standing();
    private final Standing[] past = new Standing[MOST_UNDONE];
    private int pastNext = 0;
    private int pastLength = 0;
    private final Mark[] marks = new Mark[MOST_MARKS];
    private final Hearsay hearsay = new Hearsay();
    private final Planner planner = new Planner();
    private final Parting parting = new Parting();
    private final Pairing pairing = new Pairing();
    private final int[] restsFound = new int[MOST_BITES * MOST_BITES];

    public TableTurns() {
        for (int i = 0; i < MOST_UNDONE; i++) {
            past[i] = new Standing();
        }
        for (int i = 0; i < MOST_MARKS; i++) {
            marks[i] = new Mark();
        }
    }

    public int feed(long a, long b, long c) {
        tape.addBytes(a);
        tape.addBytes(b);
        tape.addBytes(c);
        return tape.length;
    }

    public int commune() {
        if (reader.reads(tape, spareCommune)) {
            Commune elder = commune;
            commune = spareCommune;
            spareCommune = elder;
            commune.settleGifts();
            beginAnew();
        }
        tape.length = 0;
        return tape.fault;
    }

    public int weeks() {
        if (spareWeeks.reads(tape, commune)) {
            Weeks elder = weeks;
            weeks = spareWeeks;
            spareWeeks = elder;
        }
        tape.length = 0;
        return tape.fault;
    }

    public int person(int person, int what) {
        if (!isPerson(person)) {
            return NONE;
        }
        switch (what) {
            case 0: return commune.kind[person];
            case 1: return commune.hunger[person];
            case 2: return commune.taste[person];
            case 3: return commune.votes[person];
            case 4: return now.full[person];
            case 5: return now.sits(commune, person) ? 1 : 0;
            case 6: return now.ate[person];
            case 7: return now.hungry[person];
            default: return NONE;
        }
    }

    public int dish(int dish, int what) {
        if (!isDish(dish)) {
            return NONE;
        }
        switch (what) {
            case 0: return commune.bites[dish];
            case 1: return commune.salt[dish];
            case 2: return commune.cost[dish];
            default: return NONE;
        }
    }

    public int would(int eater, int dish, boolean slow, int person) {
        if (!canBeMeal(eater, dish) || !isPerson(person)) {
            return NONE;
        }
        return now.gain(commune, eater, dish, slow, person);
    }

    public int eat(int eater, int dish, boolean slow) {
        if (!canBeMeal(eater, dish)) {
            return NONE;
        }
        remember();
        boolean ill = now.takesMeal(commune, eater, dish, slow);
        now.endsDay(commune);
        return ill ? 0 : 1;
    }

    public int abroad(int person, int dish) {
        if (!isPerson(person) || !isDish(dish)) {
            return NONE;
        }
        remember();
        now.eatsAbroad(commune, person, dish);
        return now.full[person];
    }

    public int fast() {
        remember();
        now.endsDay(commune);
        return now.day;
    }

    public boolean undo() {
        if (pastLength == 0) {
            return false;
        }
        pastLength--;
        pastNext = (pastNext + MOST_UNDONE - 1) % MOST_UNDONE;
        now.copies(past[pastNext]);
        return true;
    }

    public int judged(int what) {
        if (what < 0 || what > 3) {
            return OTHERWISE;
        }
        trial.begins(commune);
        int first = NONE;
        for (int line = 0; line < weeks.length; line++) {
            int seen = weeks.happens(line, commune, trial);
            if (first == NONE && (seen >> what & 1) == 1) {
                first = line;
            }
        }
        return what == 3 ? trial.store : first;
    }

    public int plan(int days, int what) {
        if (days < 0 || days > Planner.MOST_DAYS || what < 0 || what > 1) {
            return OTHERWISE;
        }
        if (!planner.finds(commune, now, days)) {
            return OTHERWISE;
        }
        return what == 0 ? planner.least : planner.first;
    }

    public int tables(int dish, int person) {
        if (!isDish(dish) || person != NONE && !isPerson(person)) {
            return OTHERWISE;
        }
        parting.parts(commune, now.whoSits(commune), dish);
        return person == NONE ? parting.most : parting.best[person];
    }

    public int last(int dish) {
        if (!isDish(dish)) {
            return NONE;
        }
        trial.copies(now);
        int turn = 0;
        for (int days = 0; days < LONGEST_LAST; days++) {
            int eater = nextWell(turn, dish);
            if (eater == NONE) {
                return days;
            }
            trial.takesMeal(commune, eater, dish, true);
            if (trial.endsDay(commune) > 0) {
                return days;
            }
            turn = eater + 1;
        }
        return LONGEST_LAST;
    }

    public boolean tell(int person, int full) {
        if (!isPerson(person) || full < 0 || full > MOST_FULL) {
            return false;
        }
        hearsay.told[person] = full;
        return true;
    }

    public int sets(int dish, int what) {
        if (!isDish(dish) || what < 0 || what > 3) {
            return NONE;
        }
        hearsay.weighs(commune, now, dish);
        if (what == 0) {
            return hearsay.many;
        }
        if (hearsay.many == 0) {
            return NONE;
        }
        if (what == 3) {
            return hearsay.whomToAsk(commune, now, dish);
        }
        return what == 1 ? hearsay.inAll : hearsay.inSome;
    }

    public int stop(int person) {
        if (!isPerson(person) || !now.sits(commune, person)) {
            return NONE;
        }
        int well = now.whoSits(commune);
        int sick = commune.everybody() & ~well;
        int free = well & ~(1 << person);
        int best = NONE;
        for (int away = 0; away <= free; away++) {
            boolean fewer = best == NONE || Integer.bitCount(away) < Integer.bitCount(best);
            if ((away & ~free) == 0 && fewer && (commune.reached(sick, away) >> person & 1) == 0) {
                best = away;
            }
        }
        return best;
    }

    public int power(int person, int quota) {
        if (!isPerson(person) || quota < 0 || quota > 999) {
            return NONE;
        }
        int turned = 0;
        for (int set = 0; set <= commune.everybody(); set++) {
            int votes = commune.votesOf(set);
            boolean others = (set >> person & 1) == 0;
            if (others && votes < quota && votes + commune.votes[person] >= quota) {
                turned++;
            }
        }
        return turned;
    }

    public int couples(int person) {
        if (person != NONE && !isPerson(person)) {
            return OTHERWISE;
        }
        pairing.pairs(commune, now.whoSits(commune));
        return person == NONE ? pairing.least : pairing.best[person];
    }

    public int rests(int bites, int loss, int what) throws NoSuchElementException {
        if (bites < 0 || bites > 20 || loss < 0 || loss > 9) {
            throw new NoSuchElementException("no such bites or loss");
        }
        int found = findRests(bites, loss);
        if (what == NONE) {
            return found;
        }
        if (what < 0 || what >= found) {
            throw new NoSuchElementException("no such rest");
        }
        return restsFound[what];
    }

    public int years(int seed, int days, int what) {
        if (seed < 0 || seed > 9999 || days < 1 || days > 100 || what < 0 || what > 2) {
            return NONE;
        }
        trial.copies(now);
        trial.ill = 0;
        int hungry = 0;
        long drawn = seed;
        for (int day = 0; day < days; day++) {
            drawn = nextDraw(drawn);
            if (drawBelow(drawn, 10) == 0) {
                trial.store -= trial.store / 2;
            }
            if (commune.people > 0 && commune.dishes > 0) {
                drawn = drawsMeal(drawn);
            }
            hungry += trial.endsDay(commune);
        }
        if (what == 0) {
            return hungry;
        }
        return what == 1 ? trial.ill : trial.store;
    }

    public boolean mark(int mark, boolean back) {
        if (mark < 0 || mark >= MOST_MARKS || back && !marks[mark].laid) {
            return false;
        }
        if (back) {
            marks[mark].goesBack(now, weeks, hearsay);
            pastLength = 0;
        } else {
            marks[mark].lays(now, weeks, hearsay);
        }
        return true;
    }

    public int count(int what) {
        switch (what) {
            case 0: return commune.people;
            case 1: return commune.dishes;
            case 2: return commune.cupsInAll();
            case 3: return now.day;
            case 4: return now.store;
            case 5: return now.whoSits(commune);
            case 6: return sum(now.hungry, commune.people);
            case 7: return now.ill;
            case 8: return weeks.length;
            case 9: return hearsay.howManyTold();
            case 10: return pastLength;
            case 11: return tape.length;
            case 12: return sum(now.full, commune.people);
            default: return NONE;
        }
    }

    private boolean isPerson(int person) {
        return person >= 0 && person < commune.people;
    }

    private boolean isDish(int dish) {
        return dish >= 0 && dish < commune.dishes;
    }

    private boolean canBeMeal(int eater, int dish) {
        return isPerson(eater) && isDish(dish) && now.canEat(commune, eater, dish);
    }

    private void beginAnew() {
        now.begins(commune);
        weeks.length = 0;
        pastLength = 0;
        Arrays.fill(hearsay.told, NONE);
        for (int i = 0; i < MOST_MARKS; i++) {
            marks[i].laid = false;
        }
    }

    private void remember() {
        past[pastNext].copies(now);
        pastNext = (pastNext + 1) % MOST_UNDONE;
        pastLength = Math.min(pastLength + 1, MOST_UNDONE);
    }

    /** The next one from the turn on who can eat in the trial and is not ill by it. */
    private int nextWell(int turn, int dish) {
        for (int i = 0; i < commune.people; i++) {
            int eater = (turn + i) % commune.people;
            if (trial.canEat(commune, eater, dish) && !trial.wouldBeIll(commune, eater)) {
                return eater;
            }
        }
        return NONE;
    }

    private int findRests(int bites, int loss) {
        int found = 0;
        for (int first = 1; first <= MOST_BITES; first++) {
            for (int other = 1; other <= MOST_BITES; other++) {
                if (isBestFor(first, other, bites, loss) && isBestFor(other, first, bites, loss)) {
                    restsFound[found] = 10 * first + other;
                    found++;
                }
            }
        }
        return found;
    }

    private static boolean isBestFor(int own, int other, int bites, int loss) {
        int got = greedGain(own, other, bites, loss);
        for (int instead = 1; instead <= MOST_BITES; instead++) {
            if (greedGain(instead, other, bites, loss) > got) {
                return false;
            }
        }
        return true;
    }

    private static int greedGain(int own, int other, int bites, int loss) {
        return 3 * own - loss * Math.max(0, own + other - bites);
    }

    private static long nextDraw(long drawn) {
        return (drawn * 1103515245L + 12345L) % 2147483648L;
    }

    private static int drawBelow(long drawn, int bound) {
        return bound > 0 ? (int) (drawn / 65536L % bound) : 0;
    }

    private long drawsMeal(long before) {
        long drawn = nextDraw(before);
        int eater = drawBelow(drawn, commune.people);
        drawn = nextDraw(drawn);
        int dish = drawBelow(drawn, commune.dishes);
        drawn = nextDraw(drawn);
        boolean slow = drawBelow(drawn, 2) == 0;
        if (trial.canEat(commune, eater, dish)) {
            trial.takesMeal(commune, eater, dish, slow);
        }
        return drawn;
    }

    private static int sum(int[] row, int length) {
        int sum = 0;
        for (int i = 0; i < length && i < row.length; i++) {
            sum += row[i];
        }
        return sum;
    }

    /** The signs that were fed, and the token that is looked at. */
    private static final class Tape {
        static final int END = 0;
        static final int WORD = 1;
        static final int NUMBER = 2;
        static final int SIGN = 3;
        static final int NO_TOKEN = 4;

        private static final int LONGEST_WORD = 8;
        private static final int LONGEST_NUMBER = 4;
        private static final int PLACES = 16;
        private static final String SIGNS = "()<=+-*;";
        private static final String RESERVED = "person hungry taste votes dish bites salt cost cup sick from to store rest share eat abroad none slow fast plain greedy loved old not and or ";

        final byte[] signs = new byte[MOST_SIGNS];
        int length = 0;
        int fault = 0;
        int kind = END;
        int number = 0;
        char sign = ' ';
        long word = 0;
        private int next = 0;
        private int place = 0;

        void addBytes(long bytes) {
            for (int shift = 56; shift >= 0; shift -= 8) {
                int value = (int) (bytes >>> shift & 255L);
                boolean isSign = value == 10 || value >= 32 && value <= 126;
                if (isSign && length < MOST_SIGNS) {
                    signs[length] = (byte) value;
                    length++;
                }
            }
        }

        void rewind() {
            next = 0;
            fault = 0;
        }

        void takesToken() {
            while (next < length && isBlank(signs[next])) {
                next++;
            }
            place = next;
            if (next >= length) {
                kind = END;
            } else if (isLetter(signs[next])) {
                takesLetters();
            } else if (isDigit(signs[next])) {
                takesDigits();
            } else {
                sign = (char) signs[next];
                kind = SIGNS.indexOf(sign) >= 0 ? SIGN : NO_TOKEN;
                next++;
            }
        }

        private void takesLetters() {
            word = 0;
            while (next < length && isLetter(signs[next])) {
                word = withLetter(word, (char) signs[next]);
                next++;
            }
            kind = next - place <= LONGEST_WORD ? WORD : NO_TOKEN;
        }

        private void takesDigits() {
            number = 0;
            while (next < length && isDigit(signs[next])) {
                number = number * 10 + signs[next] - '0';
                next++;
            }
            kind = next - place <= LONGEST_NUMBER ? NUMBER : NO_TOKEN;
        }

        private static boolean isBlank(int value) {
            return value == 10 || value == 32;
        }

        private static boolean isLetter(int value) {
            return value >= 'a' && value <= 'z';
        }

        private static boolean isDigit(int value) {
            return value >= '0' && value <= '9';
        }

        /** Words are kept as numbers: eight letters fit into 40 bits, and no text need be made. */
        private static long withLetter(long word, char letter) {
            return word * 32 + (letter - 'a' + 1);
        }

        boolean isWord(String text) {
            if (kind != WORD) {
                return false;
            }
            long code = 0;
            for (int i = 0; i < text.length(); i++) {
                code = withLetter(code, text.charAt(i));
            }
            return code == word;
        }

        boolean isSign(char wanted) {
            return kind == SIGN && sign == wanted;
        }

        private boolean isName() {
            if (kind != WORD) {
                return false;
            }
            long code = 0;
            for (int i = 0; i < RESERVED.length(); i++) {
                char letter = RESERVED.charAt(i);
                if (letter != ' ') {
                    code = withLetter(code, letter);
                } else if (code == word) {
                    return false;
                } else {
                    code = 0;
                }
            }
            return true;
        }

        boolean wrong(int kindOfFault) {
            fault = kindOfFault + PLACES * place;
            return false;
        }

        boolean takesWord(String text) {
            takesToken();
            return isWord(text) || wrong(CANT_STAND);
        }

        boolean takesEnd() {
            takesToken();
            return isSign(';') || wrong(CANT_STAND);
        }

        boolean takesNumber(int least, int most) {
            takesToken();
            if (kind != NUMBER) {
                return wrong(CANT_STAND);
            }
            return number >= least && number <= most || wrong(WRONG_NUMBER);
        }

        boolean takesNumberOf(String what, int most) {
            return takesWord(what) && takesNumber(0, most);
        }

        boolean takesName() {
            takesToken();
            return isName() || wrong(CANT_STAND);
        }

        boolean takesPerson(Commune told) {
            takesToken();
            if (!isName()) {
                return wrong(CANT_STAND);
            }
            return told.personNamed(word) != NONE || wrong(NOT_TOLD);
        }

        boolean takesDish(Commune told) {
            takesToken();
            if (!isName()) {
                return wrong(CANT_STAND);
            }
            return told.dishNamed(word) != NONE || wrong(NOT_TOLD);
        }
    }

    /** The law of shares, held as steps, each behind what it works upon. */
    private static final class Law {
        private static final int MOUTHFUL = -1;
        private static final int OFF = -2;
        private static final int SEATS = -3;
        private static final int SLOWLY = -4;
        private static final int OWN = -5;
        private static final int NOT = -6;
        private static final int TIMES = -7;
        private static final int PLUS = -8;
        private static final int MINUS = -9;
        private static final int LESS = -10;
        private static final int SAME = -11;
        private static final int AND = -12;
        private static final int OR = -13;
        private static final int OPEN = -14;
        private static final int NOTHING = -15;

        private static final int FACTS = 5;
        private static final int TEST_BINDS = 2;
        private static final int DEEPEST = 5;
        // At most 4 joints wait on each of 6 levels, with 5 of not and ( between these.
        private static final int MOST_WAITING = 40;

        private final int[] steps = new int[MOST_SIGNS];
        private int length = 0;
        private final int[] waiting = new int[MOST_WAITING];
        private int waits = 0;
        private int depth = 0;
        private int opened = 0;
        private final int[] values = new int[MOST_WAITING];
        private final int[] facts = new int[FACTS];

        void becomesUsual() {
            length = 0;
            addStep(MOUTHFUL);
            addStep(OFF);
            addStep(MINUS);
            addStep(SEATS);
            addStep(MINUS);
        }

        /** Reads an E and the ; behind it. */
        boolean reads(Tape tape) {
            length = 0;
            waits = 0;
            depth = 0;
            opened = 0;
            boolean wantsPart = true;
            for (int i = 0; i <= MOST_SIGNS; i++) {
                tape.takesToken();
                if (wantsPart) {
                    int part = partOn(tape);
                    if (part == NOTHING) {
                        return tape.wrong(CANT_STAND);
                    }
                    if (depth >= DEEPEST) {
                        return tape.wrong(TOO_MANY);
                    }
                    wantsPart = part == NOT || part == OPEN;
                    takesPart(part);
                } else if (tape.isSign(';') && opened == 0) {
                    settleJoints(0);
                    return true;
                } else if (tape.isSign(')') && opened > 0) {
                    closes();
                } else {
                    if (!takesJoint(jointOn(tape))) {
                        return tape.wrong(CANT_STAND);
                    }
                    wantsPart = true;
                }
            }
            return tape.wrong(CANT_STAND);
        }

        private static int partOn(Tape tape) {
            if (tape.kind == Tape.NUMBER) {
                return tape.number;
            }
            if (tape.isSign('(')) {
                return OPEN;
            }
            if (tape.isWord("not")) {
                return NOT;
            }
            if (tape.isWord("mouthful")) {
                return MOUTHFUL;
            }
            if (tape.isWord("off")) {
                return OFF;
            }
            if (tape.isWord("seats")) {
                return SEATS;
            }
            if (tape.isWord("slowly")) {
                return SLOWLY;
            }
            return tape.isWord("own") ? OWN : NOTHING;
        }

        private static int jointOn(Tape tape) {
            if (tape.isWord("and")) {
                return AND;
            }
            if (tape.isWord("or")) {
                return OR;
            }
            if (tape.kind != Tape.SIGN) {
                return NOTHING;
            }
            switch (tape.sign) {
                case '<': return LESS;
                case '=': return SAME;
                case '+': return PLUS;
                case '-': return MINUS;
                case '*': return TIMES;
                default: return NOTHING;
            }
        }

        private static int bindingOf(int joint) {
            switch (joint) {
                case AND:
                case OR: return 1;
                case LESS:
                case SAME: return TEST_BINDS;
                case PLUS:
                case MINUS: return 3;
                case TIMES: return 4;
                default: return 0;
            }
        }

        private void takesPart(int part) {
            if (part == NOT || part == OPEN) {
                depth++;
                opened += part == OPEN ? 1 : 0;
                addWaiting(part);
            } else {
                addStep(part);
                settleNots();
            }
        }

        private boolean takesJoint(int joint) {
            int binding = bindingOf(joint);
            if (binding == 0) {
                return false;
            }
            if (binding == TEST_BINDS) {
                settleJoints(TEST_BINDS + 1);
                if (bindingOf(lastWaiting()) == TEST_BINDS) {
                    return false;
                }
            }
            settleJoints(binding);
            addWaiting(joint);
            return true;
        }

        private void closes() {
            settleJoints(0);
            waits = Math.max(0, waits - 1);
            depth--;
            opened--;
            settleNots();
        }

        private int lastWaiting() {
            return waits > 0 ? waiting[waits - 1] : NOTHING;
        }

        private void settleNots() {
            while (waits > 0 && waiting[waits - 1] == NOT) {
                waits--;
                depth--;
                addStep(NOT);
            }
        }

        /** Those behind the last ( that bind at least so much are steps now. */
        private void settleJoints(int binding) {
            int least = Math.max(1, binding);
            while (waits > 0 && bindingOf(waiting[waits - 1]) >= least) {
                waits--;
                addStep(waiting[waits]);
            }
        }

        private void addStep(int step) {
            if (length < MOST_SIGNS) {
                steps[length] = step;
                length++;
            }
        }

        private void addWaiting(int joint) {
            if (waits < MOST_WAITING) {
                waiting[waits] = joint;
                waits++;
            }
        }

        void facesDish(int mouthful, int off) {
            facts[-1 - MOUTHFUL] = mouthful;
            facts[-1 - OFF] = off;
        }

        /** What the E comes to of the dish that is faced, from 0 to 99. */
        int share(int seats, boolean slow, boolean own) {
            facts[-1 - SEATS] = seats;
            facts[-1 - SLOWLY] = truth(slow);
            facts[-1 - OWN] = truth(own);
            return Math.max(0, Math.min(MOST_FULL, worked()));
        }

        private int worked() {
            int top = 0;
            for (int i = 0; i < length; i++) {
                int step = steps[i];
                if (step >= OWN) {
                    if (top < MOST_WAITING) {
                        values[top] = step >= 0 ? step : facts[-1 - step];
                        top++;
                    }
                } else if (step == NOT) {
                    if (top > 0) {
                        values[top - 1] = truth(values[top - 1] == 0);
                    }
                } else if (top > 1) {
                    top--;
                    values[top - 1] = joined(step, values[top - 1], values[top]);
                }
            }
            return values[0];
        }

        private static int joined(int joint, int left, int right) {
            switch (joint) {
                case TIMES: return left * right;
                case PLUS: return left + right;
                case MINUS: return left - right;
                case LESS: return truth(left < right);
                case SAME: return truth(left == right);
                case AND: return truth(left != 0 && right != 0);
                default: return truth(left != 0 || right != 0);
            }
        }

        private static int truth(boolean so) {
            return so ? 1 : 0;
        }
    }

    /** What is told of a commune, and what each meal gives by its law. */
    private static final class Commune {
        private static final int USUAL_REST = 2;
        private static final int MEALS_OF_ONE = MOST_DISHES * 2;
        private static final int MEALS = MOST_PEOPLE * MEALS_OF_ONE;

        final long[] personName = new long[MOST_PEOPLE];
        final int[] kind = new int[MOST_PEOPLE];
        final int[] hunger = new int[MOST_PEOPLE];
        final int[] taste = new int[MOST_PEOPLE];
        final int[] votes = new int[MOST_PEOPLE];
        final int[] sickFrom = new int[MOST_PEOPLE];
        final int[] sickTo = new int[MOST_PEOPLE];
        final int[] cupsWith = new int[MOST_PEOPLE];
        final long[] dishName = new long[MOST_DISHES];
        final int[] bites = new int[MOST_DISHES];
        final int[] salt = new int[MOST_DISHES];
        final int[] cost = new int[MOST_DISHES];
        final Law law = new Law();
        int people = 0;
        int dishes = 0;
        int store = 0;
        int rest = USUAL_REST;
        // Gifts depend on what is told alone, so they are worked out once.
        private final int[] gifts = new int[MEALS * MOST_PEOPLE];
        private final int[] giftsAbroad = new int[MOST_PEOPLE * MOST_DISHES];
        // Meals for which an earlier one of the same eater gives no less to anybody and costs no more.
        final boolean[] beaten = new boolean[MEALS];

        void forgets() {
            people = 0;
            dishes = 0;
            store = 0;
            rest = USUAL_REST;
            Arrays.fill(sickFrom, NONE);
            Arrays.fill(sickTo, NONE);
            Arrays.fill(cupsWith, 0);
            law.becomesUsual();
        }

        int personNamed(long name) {
            for (int i = 0; i < people; i++) {
                if (personName[i] == name) {
                    return i;
                }
            }
            return NONE;
        }

        int dishNamed(long name) {
            for (int i = 0; i < dishes; i++) {
                if (dishName[i] == name) {
                    return i;
                }
            }
            return NONE;
        }

        boolean isSick(int person, int day) {
            return sickFrom[person] != NONE && sickFrom[person] <= day && day <= sickTo[person];
        }

        int everybody() {
            return (1 << people) - 1;
        }

        int costBy(int eater, int dish) {
            return kind[eater] == GREEDY ? 2 * cost[dish] : cost[dish];
        }

        int gift(int eater, int dish, boolean slow, int person) {
            return gifts[giftAt(eater, dish, slow) + person];
        }

        int giftAbroad(int person, int dish) {
            return giftsAbroad[person * MOST_DISHES + dish];
        }

        private static int giftAt(int eater, int dish, boolean slow) {
            return ((eater * MOST_DISHES + dish) * 2 + (slow ? 0 : 1)) * MOST_PEOPLE;
        }

        void settleGifts() {
            for (int eater = 0; eater < people; eater++) {
                for (int dish = 0; dish < dishes; dish++) {
                    law.facesDish(bites[dish], Math.abs(salt[dish] - taste[eater]));
                    giftsAbroad[eater * MOST_DISHES + dish] = law.share(0, false, true);
                    settleGiftsOf(eater, dish, true);
                    settleGiftsOf(eater, dish, false);
                }
                settleBeaten(eater);
            }
        }

        private void settleBeaten(int eater) {
            int from = eater * MEALS_OF_ONE;
            for (int meal = from; meal < from + 2 * dishes; meal++) {
                beaten[meal] = false;
                for (int other = from; other < meal && !beaten[meal]; other++) {
                    beaten[meal] = isNoWorse(other, meal);
                }
            }
        }

        private boolean isNoWorse(int meal, int than) {
            if (cost[meal % MEALS_OF_ONE / 2] > cost[than % MEALS_OF_ONE / 2]) {
                return false;
            }
            for (int i = 0; i < people; i++) {
                if (gifts[meal * MOST_PEOPLE + i] < gifts[than * MOST_PEOPLE + i]) {
                    return false;
                }
            }
            return true;
        }

        private void settleGiftsOf(int eater, int dish, boolean slow) {
            for (int person = 0; person < people; person++) {
                int share = law.share(Math.abs(eater - person), slow, person == eater);
                gifts[giftAt(eater, dish, slow) + person] = byKind(kind[eater], person == eater, share);
            }
        }

        private static int byKind(int kind, boolean own, int share) {
            if (own) {
                return kind == GREEDY ? 2 * share : share;
            }
            if (kind == LOVED) {
                return share + 1;
            }
            return kind == OLD ? Math.max(0, share - 1) : share;
        }

        int cupsInAll() {
            int ends = 0;
            for (int i = 0; i < people; i++) {
                ends += Integer.bitCount(cupsWith[i]);
            }
            return ends / 2;
        }

        /** Whom rows of cups lead to from some, by none who is away. */
        int reached(int from, int away) {
            int reached = from;
            // A row has at most as many cups as there are people.
            for (int round = 0; round < people; round++) {
                for (int i = 0; i < people; i++) {
                    if ((reached >> i & 1) == 1) {
                        reached |= cupsWith[i] & ~away;
                    }
                }
            }
            return reached;
        }

        int votesOf(int set) {
            int sum = 0;
            for (int i = 0; i < people; i++) {
                sum += (set >> i & 1) * votes[i];
            }
            return sum;
        }
    }

    /** Reads the tape as a commune. */
    private static final class CommuneReader {
        private boolean storeTold = false;
        private boolean restTold = false;
        private boolean shareTold = false;

        boolean reads(Tape tape, Commune told) {
            told.forgets();
            storeTold = false;
            restTold = false;
            shareTold = false;
            tape.rewind();
            for (int i = 0; i <= MOST_SIGNS; i++) {
                tape.takesToken();
                if (tape.kind == Tape.END) {
                    return true;
                }
                boolean right;
                if (tape.isWord("person")) {
                    right = readsPerson(tape, told);
                } else if (tape.isWord("dish")) {
                    right = readsDish(tape, told);
                } else if (tape.isWord("cup")) {
                    right = readsCup(tape, told);
                } else if (tape.isWord("sick")) {
                    right = readsSick(tape, told);
                } else if (tape.isWord("store")) {
                    right = readsStore(tape, told);
                } else if (tape.isWord("rest")) {
                    right = readsRest(tape, told);
                } else if (tape.isWord("share")) {
                    right = readsShare(tape, told);
                } else {
                    right = tape.wrong(CANT_STAND);
                }
                if (!right) {
                    return false;
                }
            }
            return tape.wrong(CANT_STAND);
        }

        private static boolean readsPerson(Tape tape, Commune told) {
            int i = told.people;
            if (i >= MOST_PEOPLE) {
                return tape.wrong(TOO_MANY);
            }
            if (!takesNewName(tape, told)) {
                return false;
            }
            told.personName[i] = tape.word;
            if (!takesKind(tape, told, i) || !tape.takesNumberOf("hungry", 9)) {
                return false;
            }
            told.hunger[i] = tape.number;
            if (!tape.takesNumberOf("taste", 9)) {
                return false;
            }
            told.taste[i] = tape.number;
            if (!tape.takesNumberOf("votes", 99)) {
                return false;
            }
            told.votes[i] = tape.number;
            told.people = i + 1;
            return tape.takesEnd();
        }

        private static boolean takesNewName(Tape tape, Commune told) {
            if (!tape.takesName()) {
                return false;
            }
            boolean isNew = told.personNamed(tape.word) == NONE && told.dishNamed(tape.word) == NONE;
            return isNew || tape.wrong(TOLD_ALREADY);
        }

        private static boolean takesKind(Tape tape, Commune told, int person) {
            tape.takesToken();
            if (tape.isWord("plain")) {
                told.kind[person] = 0;
            } else if (tape.isWord("greedy")) {
                told.kind[person] = GREEDY;
            } else if (tape.isWord("loved")) {
                told.kind[person] = LOVED;
            } else if (tape.isWord("old")) {
                told.kind[person] = OLD;
            } else {
                return tape.wrong(CANT_STAND);
            }
            return true;
        }

        private static boolean readsDish(Tape tape, Commune told) {
            int i = told.dishes;
            if (i >= MOST_DISHES) {
                return tape.wrong(TOO_MANY);
            }
            if (!takesNewName(tape, told)) {
                return false;
            }
            told.dishName[i] = tape.word;
            if (!tape.takesNumberOf("bites", 20)) {
                return false;
            }
            told.bites[i] = tape.number;
            if (!tape.takesNumberOf("salt", 9)) {
                return false;
            }
            told.salt[i] = tape.number;
            if (!tape.takesNumberOf("cost", 20)) {
                return false;
            }
            told.cost[i] = tape.number;
            told.dishes = i + 1;
            return tape.takesEnd();
        }

        private static boolean readsCup(Tape tape, Commune told) {
            if (!tape.takesPerson(told)) {
                return false;
            }
            int first = told.personNamed(tape.word);
            if (!tape.takesPerson(told)) {
                return false;
            }
            int second = told.personNamed(tape.word);
            if (first == NONE || second == NONE || first == second || (told.cupsWith[first] >> second & 1) == 1) {
                return tape.wrong(TOLD_ALREADY);
            }
            told.cupsWith[first] |= 1 << second;
            told.cupsWith[second] |= 1 << first;
            return tape.takesEnd();
        }

        private static boolean readsSick(Tape tape, Commune told) {
            if (!tape.takesPerson(told)) {
                return false;
            }
            int person = told.personNamed(tape.word);
            if (person == NONE || told.sickFrom[person] != NONE) {
                return tape.wrong(TOLD_ALREADY);
            }
            if (!tape.takesNumberOf("from", 99)) {
                return false;
            }
            told.sickFrom[person] = tape.number;
            if (!tape.takesWord("to") || !tape.takesNumber(told.sickFrom[person], 99)) {
                return false;
            }
            told.sickTo[person] = tape.number;
            return tape.takesEnd();
        }

        private boolean readsStore(Tape tape, Commune told) {
            if (storeTold) {
                return tape.wrong(TOLD_ALREADY);
            }
            storeTold = true;
            if (!tape.takesNumber(0, 999)) {
                return false;
            }
            told.store = tape.number;
            return tape.takesEnd();
        }

        private boolean readsRest(Tape tape, Commune told) {
            if (restTold) {
                return tape.wrong(TOLD_ALREADY);
            }
            restTold = true;
            if (!tape.takesNumber(0, 7)) {
                return false;
            }
            told.rest = tape.number;
            return tape.takesEnd();
        }

        private boolean readsShare(Tape tape, Commune told) {
            if (shareTold) {
                return tape.wrong(TOLD_ALREADY);
            }
            shareTold = true;
            return told.law.reads(tape);
        }
    }

    /** The lines of the weeks told. */
    private static final class Weeks {
        static final int CANT_BE = 1;
        static final int HUNGRY = 2;
        static final int ILL = 4;

        private static final int NOBODY_EATS = 0;
        private static final int EATS_ABROAD = 1;
        private static final int EATS_SLOWLY = 2;
        private static final int EATS_FAST = 3;

        private final int[] how = new int[MOST_LINES];
        private final int[] who = new int[MOST_LINES];
        private final int[] what = new int[MOST_LINES];
        int length = 0;

        void copies(Weeks other) {
            length = other.length;
            System.arraycopy(other.how, 0, how, 0, MOST_LINES);
            System.arraycopy(other.who, 0, who, 0, MOST_LINES);
            System.arraycopy(other.what, 0, what, 0, MOST_LINES);
        }

        boolean reads(Tape tape, Commune commune) {
            length = 0;
            tape.rewind();
            for (int i = 0; i <= MOST_LINES; i++) {
                tape.takesToken();
                if (tape.kind == Tape.END) {
                    return true;
                }
                if (!readsLine(tape, commune)) {
                    return false;
                }
            }
            return tape.wrong(TOO_MANY);
        }

        private boolean readsLine(Tape tape, Commune commune) {
            boolean eats = tape.isWord("eat");
            boolean abroad = tape.isWord("abroad");
            if (!eats && !abroad && !tape.isWord("none")) {
                return tape.wrong(CANT_STAND);
            }
            if (length >= MOST_LINES) {
                return tape.wrong(TOO_MANY);
            }
            how[length] = abroad ? EATS_ABROAD : NOBODY_EATS;
            if ((eats || abroad) && !takesWhoAndWhat(tape, commune)) {
                return false;
            }
            if (eats && !takesHow(tape)) {
                return false;
            }
            length++;
            return tape.takesEnd();
        }

        private boolean takesWhoAndWhat(Tape tape, Commune commune) {
            if (!tape.takesPerson(commune)) {
                return false;
            }
            who[length] = commune.personNamed(tape.word);
            if (!tape.takesDish(commune)) {
                return false;
            }
            what[length] = commune.dishNamed(tape.word);
            return true;
        }

        private boolean takesHow(Tape tape) {
            tape.takesToken();
            boolean slow = tape.isWord("slow");
            if (!slow && !tape.isWord("fast")) {
                return tape.wrong(CANT_STAND);
            }
            how[length] = slow ? EATS_SLOWLY : EATS_FAST;
            return true;
        }

        /** A line happens; what was seen by it comes as bits. */
        int happens(int line, Commune commune, Standing standing) {
            if (how[line] == EATS_ABROAD) {
                standing.eatsAbroad(commune, who[line], what[line]);
                return 0;
            }
            int seen = 0;
            if (how[line] != NOBODY_EATS) {
                if (!standing.canEat(commune, who[line], what[line])) {
                    return CANT_BE;
                }
                boolean slow = how[line] == EATS_SLOWLY;
                seen = standing.takesMeal(commune, who[line], what[line], slow) ? ILL : 0;
            }
            return standing.endsDay(commune) > 0 ? seen | HUNGRY : seen;
        }
    }

    /** How a commune stands on a day. */
    private static final class Standing {
        int day = 0;
        int store = 0;
        int ill = 0;
        final int[] full = new int[MOST_PEOPLE];
        final int[] ate = new int[MOST_PEOPLE];
        final int[] hungry = new int[MOST_PEOPLE];

        void begins(Commune commune) {
            day = 0;
            store = commune.store;
            ill = 0;
            Arrays.fill(full, FULL_AT_FIRST);
            Arrays.fill(ate, NONE);
            Arrays.fill(hungry, 0);
        }

        void copies(Standing other) {
            copiesDay(other);
            ill = other.ill;
            System.arraycopy(other.hungry, 0, hungry, 0, MOST_PEOPLE);
        }

        /** All but how often somebody was hungry or ill, which a mark does not hold. */
        void copiesDay(Standing other) {
            day = other.day;
            store = other.store;
            System.arraycopy(other.full, 0, full, 0, MOST_PEOPLE);
            System.arraycopy(other.ate, 0, ate, 0, MOST_PEOPLE);
        }

        boolean sits(Commune commune, int person) {
            return !commune.isSick(person, day);
        }

        int whoSits(Commune commune) {
            int sitting = 0;
            for (int i = 0; i < commune.people; i++) {
                if (sits(commune, i)) {
                    sitting |= 1 << i;
                }
            }
            return sitting;
        }

        boolean canEat(Commune commune, int eater, int dish) {
            return sits(commune, eater) && commune.costBy(eater, dish) <= store;
        }

        boolean wouldBeIll(Commune commune, int eater) {
            return ate[eater] != NONE && day - ate[eater] <= commune.rest;
        }

        /** What a meal of today would fill one by. */
        int gain(Commune commune, int eater, int dish, boolean slow, int person) {
            if (wouldBeIll(commune, eater) || !sits(commune, person)) {
                return 0;
            }
            return commune.gift(eater, dish, slow, person);
        }

        /** A meal that can be; true if the eater is ill by it. */
        boolean takesMeal(Commune commune, int eater, int dish, boolean slow) {
            boolean isIll = wouldBeIll(commune, eater);
            for (int i = 0; i < commune.people; i++) {
                fill(i, gain(commune, eater, dish, slow, i));
            }
            store -= commune.costBy(eater, dish);
            ate[eater] = day;
            ill += isIll ? 1 : 0;
            return isIll;
        }

        void eatsAbroad(Commune commune, int person, int dish) {
            fill(person, commune.giftAbroad(person, dish));
        }

        private void fill(int person, int gain) {
            full[person] = Math.min(MOST_FULL, full[person] + gain);
        }

        /** How many are hungry by the day's end. */
        int endsDay(Commune commune) {
            int many = 0;
            for (int i = 0; i < commune.people; i++) {
                if (full[i] < commune.hunger[i]) {
                    full[i] = 0;
                    hungry[i]++;
                    many++;
                } else {
                    full[i] -= commune.hunger[i];
                }
            }
            day++;
            return many;
        }
    }

    /** What a mark holds. */
    private static final class Mark {
        boolean laid = false;
        private final Standing standing = new Standing();
        private final Weeks weeks = new Weeks();
        private final int[] told = new int[MOST_PEOPLE];

        void lays(Standing now, Weeks said, Hearsay hearsay) {
            laid = true;
            standing.copiesDay(now);
            weeks.copies(said);
            System.arraycopy(hearsay.told, 0, told, 0, MOST_PEOPLE);
        }

        void goesBack(Standing now, Weeks said, Hearsay hearsay) {
            now.copiesDay(standing);
            said.copies(weeks);
            System.arraycopy(told, 0, hearsay.told, 0, MOST_PEOPLE);
        }
    }

    /** What is told of how full they are, and who may have eaten abroad by it. */
    private static final class Hearsay {
        final int[] told = new int[MOST_PEOPLE];
        int many = 0;
        int inAll = 0;
        int inSome = 0;
        private final int[] setsWith = new int[MOST_PEOPLE];

        Hearsay() {
            Arrays.fill(told, NONE);
        }

        int howManyTold() {
            int sum = 0;
            for (int i = 0; i < MOST_PEOPLE; i++) {
                sum += isTold(i) ? 1 : 0;
            }
            return sum;
        }

        private boolean isTold(int person) {
            return told[person] != NONE;
        }

        void weighs(Commune commune, Standing now, int dish) {
            many = 0;
            inAll = commune.everybody();
            inSome = 0;
            Arrays.fill(setsWith, 0);
            for (int set = 0; set <= commune.everybody(); set++) {
                if (agrees(commune, now, dish, set)) {
                    many++;
                    inAll &= set;
                    inSome |= set;
                    for (int i = 0; i < commune.people; i++) {
                        setsWith[i] += set >> i & 1;
                    }
                }
            }
        }

        private boolean agrees(Commune commune, Standing now, int dish, int set) {
            for (int i = 0; i < commune.people; i++) {
                boolean out = (set >> i & 1) == 1;
                int full = out ? fullAbroad(commune, now, dish, i) : now.full[i];
                if (isTold(i) && told[i] != full) {
                    return false;
                }
            }
            return true;
        }

        private static int fullAbroad(Commune commune, Standing now, int dish, int person) {
            return Math.min(MOST_FULL, now.full[person] + commune.giftAbroad(person, dish));
        }

        int whomToAsk(Commune commune, Standing now, int dish) {
            int best = NONE;
            int least = many;
            for (int i = 0; i < commune.people; i++) {
                boolean shows = fullAbroad(commune, now, dish, i) != now.full[i];
                int alike = shows ? Math.max(setsWith[i], many - setsWith[i]) : many;
                if (!isTold(i) && alike < least) {
                    least = alike;
                    best = i;
                }
            }
            return best;
        }
    }

    /** The cheapest days without hunger. */
    private static final class Planner {
        static final int MOST_DAYS = 3;

        private static final int FAST = 60;
        private static final int TOO_DEAR = 1000000;

        int least = 0;
        int first = NONE;
        private int begin = 0;
        private int tried = NONE;
        private int days = 0;
        private final Standing[] standings = new Standing[MOST_DAYS + 1];

        Planner() {
            for (int i = 0; i <= MOST_DAYS; i++) {
                standings[i] = new Standing();
            }
        }

        boolean finds(Commune commune, Standing now, int howMany) {
            days = Math.min(MOST_DAYS, howMany);
            least = TOO_DEAR;
            first = NONE;
            tried = NONE;
            standings[0].copies(now);
            // With fasts ahead a low cost is found soon; it bounds the search for the first row.
            begin = FAST;
            search(commune, 0, 0);
            if (least == TOO_DEAR) {
                return false;
            }
            least++;
            begin = 0;
            search(commune, 0, 0);
            return true;
        }

        private void search(Commune commune, int day, int spent) {
            if (day >= days) {
                least = spent;
                first = tried;
                return;
            }
            for (int i = 0; i <= FAST; i++) {
                int choice = (begin + i) % (FAST + 1);
                int cost = costOf(commune, day, choice);
                // Of equal ones the first stays, so a choice must be cheaper to be looked at.
                if (cost != NONE && spent + cost < least && feedsAll(commune, day, choice)) {
                    tried = day == 0 ? choice : tried;
                    chooses(commune, day, choice);
                    search(commune, day + 1, spent + cost);
                }
            }
        }

        private static int eaterOf(int choice) {
            return choice / 10;
        }

        private static int dishOf(int choice) {
            return choice % 10 / 2;
        }

        private static boolean isSlow(int choice) {
            return choice % 2 == 0;
        }

        /** NONE if it can't be, or can't be the best. */
        private int costOf(Commune commune, int day, int choice) {
            if (choice == FAST) {
                return 0;
            }
            int eater = eaterOf(choice);
            int dish = dishOf(choice);
            if (eater >= commune.people || dish >= commune.dishes || commune.beaten[choice]) {
                return NONE;
            }
            return standings[day].canEat(commune, eater, dish) ? commune.costBy(eater, dish) : NONE;
        }

        /** Looked at ahead of the meal: most choices fail here, and nothing is copied for them. */
        private boolean feedsAll(Commune commune, int day, int choice) {
            Standing here = standings[day];
            for (int i = 0; i < commune.people; i++) {
                if (here.full[i] < commune.hunger[i]) {
                    int gain = choice == FAST ? 0
                        : here.gain(commune, eaterOf(choice), dishOf(choice), isSlow(choice), i);
                    if (here.full[i] + gain < commune.hunger[i]) {
                        return false;
                    }
                }
            }
            return true;
        }

        private void chooses(Commune commune, int day, int choice) {
            Standing then = standings[day + 1];
            then.copies(standings[day]);
            if (choice != FAST) {
                then.takesMeal(commune, eaterOf(choice), dishOf(choice), isSlow(choice));
            }
            then.endsDay(commune);
        }
    }

    /** The best tables of those who sit. */
    private static final class Parting {
        int most = 0;
        final int[] best = new int[MOST_PEOPLE];
        private final int[] row = new int[MOST_PEOPLE];
        private final int[] tableSets = new int[MOST_PEOPLE];
        private final int[] worths = new int[1 << MOST_PEOPLE];
        private int people = 0;
        private int sitting = 0;

        void parts(Commune commune, int whoSits, int dish) {
            people = commune.people;
            sitting = whoSits;
            for (int set = 0; set <= sitting; set++) {
                worths[set] = (set & ~sitting) == 0 ? worthOf(commune, set, dish) : 0;
            }
            Arrays.fill(tableSets, 0);
            most = NONE;
            seat(0, 0);
        }

        private static int worthOf(Commune commune, int set, int dish) {
            int best = 0;
            for (int eater = 0; eater < commune.people; eater++) {
                if ((set >> eater & 1) == 1) {
                    best = Math.max(best, worthBy(commune, set, dish, eater));
                }
            }
            return best;
        }

        private static int worthBy(Commune commune, int set, int dish, int eater) {
            int sum = 0;
            for (int i = 0; i < commune.people; i++) {
                if ((set >> i & 1) == 1) {
                    sum += commune.gift(eater, dish, true, i);
                }
            }
            return sum;
        }

        private void seat(int person, int tables) {
            if (person >= people) {
                keepIfBetter(tables);
                return;
            }
            if ((sitting >> person & 1) == 0) {
                row[person] = NONE;
                seat(person + 1, tables);
                return;
            }
            for (int table = 0; table <= tables && table < MOST_PEOPLE; table++) {
                row[person] = table;
                tableSets[table] |= 1 << person;
                seat(person + 1, Math.max(tables, table + 1));
                tableSets[table] &= ~(1 << person);
            }
        }

        private void keepIfBetter(int tables) {
            int worth = 0;
            for (int i = 0; i < tables; i++) {
                worth += worths[tableSets[i]];
            }
            if (worth > most) {
                most = worth;
                System.arraycopy(row, 0, best, 0, MOST_PEOPLE);
            }
        }
    }

    /** The couples of those who sit whose tastes are nearest. */
    private static final class Pairing {
        private static final int TOO_FAR = 1000000;

        int least = 0;
        final int[] best = new int[MOST_PEOPLE];
        private final int[] row = new int[MOST_PEOPLE];

        void pairs(Commune commune, int sitting) {
            least = TOO_FAR;
            Arrays.fill(row, NONE);
            pairRest(commune, sitting, Integer.bitCount(sitting) % 2 == 1, 0);
        }

        private void pairRest(Commune commune, int left, boolean oneAlone, int apart) {
            if (left == 0) {
                if (apart < least) {
                    least = apart;
                    System.arraycopy(row, 0, best, 0, MOST_PEOPLE);
                }
                return;
            }
            int one = Integer.numberOfTrailingZeros(left);
            int others = left & ~(1 << one);
            for (int other = one + 1; other < MOST_PEOPLE; other++) {
                if ((others >> other & 1) == 1) {
                    row[one] = other;
                    row[other] = one;
                    int further = Math.abs(commune.taste[one] - commune.taste[other]);
                    pairRest(commune, others & ~(1 << other), oneAlone, apart + further);
                }
            }
            row[one] = NONE;
            if (oneAlone) {
                pairRest(commune, others, false, apart);
            }
        }
    }
}
