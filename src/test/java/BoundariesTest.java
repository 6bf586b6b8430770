import java.io.IOException;
import java.lang.annotation.Retention;
import java.lang.annotation.RetentionPolicy;
import java.lang.reflect.InvocationTargetException;
import java.lang.reflect.Method;
import java.nio.file.Files;
import java.nio.file.Path;
import java.util.Arrays;
import java.util.Comparator;
import java.util.NoSuchElementException;

/** A test of its own for each sentence of the document that names a boundary case; Says holds the document's words. */
public final class BoundariesTest {
    @Retention(RetentionPolicy.RUNTIME)
    private @interface Says {
        String value();
    }

    private static final int NONE = -1;
    private static final int LEAST = Integer.MIN_VALUE;
    private static final int MOST = Integer.MAX_VALUE;
    /** What rest answers for a NoSuchElementException. */
    private static final int THROWN = -99;
    /** Numbers of nobody and of no dish where there are two of each. */
    private static final int[] NO_PEOPLE = {-1, 2, 6, LEAST, MOST};
    private static final int[] NO_DISHES = {-1, 2, 5, LEAST, MOST};
    private static final String[] RESERVED = {"person", "hungry", "taste", "votes", "dish", "bites", "salt", "cost", "cup", "sick",
        "from", "to", "store", "rest", "share", "eat", "abroad", "none", "slow", "fast", "plain", "greedy", "loved", "old", "not",
        "and", "or"};

    private static int wrong = 0;
    private static int checks = 0;
    private static String says = "";

    public static void main(String[] args) throws IllegalAccessException {
        String document = document();
        int sentences = 0;
        Method[] methods = BoundariesTest.class.getDeclaredMethods();
        Arrays.sort(methods, Comparator.comparing(Method::getName));
        for (Method method : methods) {
            Says words = method.getAnnotation(Says.class);
            if (words != null) {
                sentences++;
                if (!document.contains(words.value())) {
                    System.out.println("the document does not say: " + words.value());
                }
                holds(method, words.value());
            }
        }
        System.out.println(sentences + " sentences, " + checks + " checks, " + wrong + " wrong");
        if (wrong != 0) {
            System.exit(1);
        }
    }

    private static void holds(Method method, String words) throws IllegalAccessException {
        says = method.getName() + " (" + words + ")";
        int before = checks;
        try {
            method.invoke(null);
        } catch (InvocationTargetException e) {
            wrong++;
            System.out.println(says + " threw " + e.getCause());
        }
        if (checks == before) {
            wrong++;
            System.out.println(says + " checks nothing");
        }
    }

    private static String document() {
        try {
            return Files.readString(Path.of("../shared/DOC.md")).replaceAll("\\s+", " ");
        } catch (IOException e) {
            return "";
        }
    }

    private static void due(String what, long want, long got) {
        checks++;
        if (want != got) {
            wrong++;
            System.out.println(says + ": " + what + " answered " + got + ", due is " + want);
        }
    }

    private static void due(String what, boolean want, boolean got) {
        due(what, want ? 1 : 0, got ? 1 : 0);
    }

    private static long eight(String text, int from) {
        long bytes = 0;
        for (int i = from; i < from + 8; i++) {
            bytes = bytes << 8 | (i < text.length() ? text.charAt(i) : 0);
        }
        return bytes;
    }

    private static int feed(TableTurns x, String text) {
        for (int i = 0; i < text.length(); i += 24) {
            x.feed(eight(text, i), eight(text, i + 8), eight(text, i + 16));
        }
        return x.count(11);
    }

    private static int commune(TableTurns x, String text) {
        feed(x, text);
        return x.commune();
    }

    private static int weeks(TableTurns x, String text) {
        feed(x, text);
        return x.weeks();
    }

    private static TableTurns told(String text) {
        TableTurns x = new TableTurns();
        due("commune of " + text, 0, commune(x, text));
        return x;
    }

    private static void fault(int kind, int place, String text) {
        due("fault of " + text, kind + 16 * place, commune(new TableTurns(), text));
    }

    private static void right(String text) {
        due("fault of " + text, 0, commune(new TableTurns(), text));
    }

    private static void weeksFault(int kind, int place, String text) {
        due("fault of weeks " + text, kind + 16 * place, weeks(told(people(2) + dishes(2)), text));
    }

    private static void fasts(TableTurns x, int days) {
        for (int i = 0; i < days; i++) {
            x.fast();
        }
    }

    private static int rest(TableTurns x, int bites, int loss, int what) {
        try {
            return x.rests(bites, loss, what);
        } catch (NoSuchElementException e) {
            return THROWN;
        }
    }

    private static String blanks(int many) {
        return " ".repeat(many);
    }

    private static String person(String name, String kind, int hungry, int taste, int votes) {
        return "person " + name + " " + kind + " hungry " + hungry + " taste " + taste + " votes " + votes + ";";
    }

    private static String plain(String name, int hungry) {
        return person(name, "plain", hungry, 0, 0);
    }

    private static String dish(String name, int bites, int salt, int cost) {
        return "dish " + name + " bites " + bites + " salt " + salt + " cost " + cost + ";";
    }

    private static String hungryPeople(int many, int hungry) {
        StringBuilder text = new StringBuilder();
        for (int i = 0; i < many; i++) {
            text.append(plain(String.valueOf((char) ('a' + i)), hungry));
        }
        return text.toString();
    }

    /** People a, b, .. who are never hungry, of taste 0 and without votes. */
    private static String people(int many) {
        return hungryPeople(many, 0);
    }

    /** Dishes p, q, .. of 0, 1, .. bites, for nothing. */
    private static String dishes(int many) {
        StringBuilder text = new StringBuilder();
        for (int i = 0; i < many; i++) {
            text.append(dish(String.valueOf((char) ('p' + i)), i, 0, 0));
        }
        return text.toString();
    }

    /** What one alone is filled by, of taste 0, by a dish of 7 bites and salt 2. */
    private static void share(String law, int slow, int quick) {
        TableTurns x = told(plain("a", 0) + dish("p", 7, 2, 0) + "share " + law + ";");
        due("slow share " + law, slow, x.would(0, 0, true, 0));
        due("fast share " + law, quick, x.would(0, 0, false, 0));
    }

    private static void share(String law, int both) {
        share(law, both, both);
    }

    private static void shareFault(int kind, int place, String law) {
        fault(kind, place + 6, "share " + law);
    }

    /** All that can be asked without changing anything, as one text. */
    private static String all(TableTurns x) {
        StringBuilder text = new StringBuilder();
        for (int what = 0; what <= 12; what++) {
            text.append(x.count(what)).append(' ');
        }
        for (int i = 0; i < x.count(0); i++) {
            for (int what = 0; what <= 7; what++) {
                text.append(x.person(i, what)).append(' ');
            }
        }
        for (int i = 0; i < x.count(1); i++) {
            for (int what = 0; what <= 2; what++) {
                text.append(x.dish(i, what)).append(' ');
            }
        }
        return text.toString();
    }

    private static void stays(String what, String before, TableTurns x) {
        due(what + " changes nothing: " + before + "/ " + all(x), true, before.equals(all(x)));
    }

    // ---- the TAPE and its TOKENS

    @Says("The TAPE has at most 1,000 signs")
    private static void tapeFull() {
        TableTurns x = new TableTurns();
        due("the thousandth", 1000, feed(x, "store 5" + blanks(992) + ";"));
        due("one beyond", 1000, x.feed(0x78L, 0, 0));
        due("the thousandth is read, one beyond is not", 0, x.commune());
        due("store", 5, x.count(4));
        due("the ; is one beyond", 1000, feed(x, "store 6" + blanks(993) + ";"));
        due("the ; is left out", 1 + 16 * 1000, x.commune());
        due("store stays", 5, x.count(4));
        due("ten are left", 990, feed(x, "store 7;" + blanks(982)));
        due("the first ten of 24", 1000, x.feed(eight("rest 1; x", 0), eight("rest 1; x", 8), eight("yyyyyyyy", 0)));
        due("the last one is behind the x", 1 + 16 * 998, x.commune());
    }

    @Says("10 and 32 .. 126")
    private static void tapeSigns() {
        for (int sign = 0; sign < 256; sign++) {
            int many = sign == 10 || sign >= 32 && sign <= 126 ? 1 : 0;
            due("highest byte " + sign, many, new TableTurns().feed((long) sign << 56, 0, 0));
            due("a byte between " + sign, many, new TableTurns().feed(0, (long) sign << 24, 0));
            due("lowest byte " + sign, many, new TableTurns().feed(0, 0, sign));
        }
    }

    @Says("what reads it takes it: it is empty then")
    private static void tapeTaken() {
        TableTurns x = new TableTurns();
        due("commune", 0, commune(x, "store 5;"));
        due("empty", 0, x.count(11));
        due("an empty one is a commune", 0, x.commune());
        due("without a store", 0, x.count(4));
        due("commune with a fault", 1, commune(x, "weeks"));
        due("empty", 0, x.count(11));
        due("weeks", 0, weeks(x, "none;"));
        due("empty", 0, x.count(11));
        due("an empty one is weeks", 0, x.weeks());
        due("without lines", 0, x.count(8));
        due("weeks with a fault", 1, weeks(x, "store"));
        due("empty", 0, x.count(11));
        due("from the beginning", 1, x.feed(0, 0, 0x3BL));
        due("the fault is at 0", 1, x.weeks());
    }

    @Says("TOKENS, each as long as can be")
    private static void tokensLong() {
        fault(1, 0, "storex 5;");
        fault(1, 0, "storestore 5;");
        fault(1, 8, "store 5;rests 1;");
        TableTurns x = told("store 55;");
        due("55, not 5 and 5", 55, x.count(4));
        fault(1, 8, "store 5 5;");
        fault(1, 8, "store 55x;");
    }

    @Says("blanks (10, 32) between where one likes")
    private static void blanksBetween() {
        right("");
        right(" \n ");
        right("\n store\n\n5 ; \n");
        right("store5;rest1;share(1)+1*not(0)and 1;");
        right("person a plain hungry1taste2votes3;dish b bites1salt2cost3;");
        right("person\na\nplain\nhungry\n1\ntaste\n2\nvotes\n3\n;");
        fault(1, 0, "sto re 5;");
        fault(1, 8, "store 5 0;");
    }

    @Says("WORDS (letters a .. z, 8 at most)")
    private static void words() {
        right("person abcdefgh plain hungry 1 taste 1 votes 1;person abcdefgi plain hungry 1 taste 1 votes 1;");
        right("person a plain hungry 1 taste 1 votes 1;dish zzzzzzzz bites 1 salt 1 cost 1;");
        fault(1, 7, "person abcdefghi plain hungry 1 taste 1 votes 1;");
        fault(1, 7, "person " + "a".repeat(900) + " plain");
        for (char c : new char[] {'`', '{', 'A', 'Z', '@', '[', '_'}) {
            fault(1, 7, "person " + c + " plain");
            fault(1, 8, "person a" + c + " plain");
        }
        fault(1, 8, "person a1 plain");
    }

    @Says("NUMBERS (1 to 4 digits; a letter may stand right behind)")
    private static void numbers() {
        due("four digits", 5, told("store 0005;").count(4));
        due("one digit", 0, told("store 0;").count(4));
        fault(1, 6, "store 00005;");
        fault(1, 6, "store 00000;");
        right("share 9999;");
        fault(1, 6, "share 10000;");
        fault(1, 6, "share 4294967297;");
        fault(1, 7, "store 5x");
        right("person a plain hungry 4taste 4votes 4;");
        fault(1, 6, "store /;");
        fault(1, 6, "store :;");
    }

    @Says("the signs ( ) < = + - * ;")
    private static void signs() {
        String joints = "<=+-*";
        for (char c = 33; c <= 126; c++) {
            boolean isJoint = joints.indexOf(c) >= 0;
            boolean isAlone = (c < 'a' || c > 'z') && (c < '0' || c > '9') && c != ';';
            if (isAlone) {
                fault(isJoint ? 0 : 1, isJoint ? 0 : 7, "share 1" + c + "1;");
                fault(1, 0, c + "store 1;");
            }
        }
        right("share (1);");
        fault(1, 8, "share 1;1;");
    }

    @Says("All else (a longer WORD or NUMBER, too, at its first sign) is none.")
    private static void noToken() {
        fault(1, 8, "store 5;abcdefghi");
        fault(1, 9, "store 5; personperson a");
        fault(1, 6, "store 12345;");
        fault(1, 6, "store 12345x;");
        fault(1, 8, "store 5 ,;");
        fault(1, 7, "store 5,;");
        fault(1, 6, "store -5;");
    }

    // ---- COMMUNE

    @Says("COMMUNE: any number of")
    private static void communeLines() {
        TableTurns x = told("");
        due("nobody", 0, x.count(0));
        due("nothing", 0, x.count(1));
        x = told("store 1;" + dish("p", 1, 1, 1) + plain("a", 1) + "rest 1;" + dish("q", 2, 1, 1) + plain("b", 2) + "cup b a;");
        due("in any order", 2, x.count(0));
        due("in any order", 2, x.count(1));
        due("numbered as told", 2, x.dish(1, 0));
    }

    @Says("person: 6 at most")
    private static void sixPeople() {
        TableTurns x = told(hungryPeople(6, 1));
        due("six", 6, x.count(0));
        due("the sixth", 1, x.person(5, 1));
        due("no seventh", NONE, x.person(6, 1));
        String six = hungryPeople(6, 1);
        fault(5, six.length(), six + plain("g", 1));
        fault(5, six.length() + 1, six + " person");
        fault(5, six.length(), six + "person a");
        due("a seventh", 5 + 16 * six.length(), commune(x, six + plain("g", 1)));
        due("still six", 6, x.count(0));
    }

    @Says("numbered as told, as they sit along the bench; KIND: plain, greedy, loved, old")
    private static void kinds() {
        TableTurns x = told(person("zoe", "plain", 1, 1, 1) + person("yan", "greedy", 2, 1, 1) + person("bob", "loved", 3, 1, 1)
            + person("al", "old", 4, 1, 1));
        for (int i = 0; i < 4; i++) {
            due("kind", i, x.person(i, 0));
            due("hunger", i + 1, x.person(i, 1));
        }
        fault(1, 9, "person a kind hungry");
        fault(1, 9, "person a hungry 1");
        fault(1, 9, "person a young hungry");
        fault(1, 15, "person a plain old");
    }

    @Says("hungry 0 to 9, taste 0 to 9, votes 0 to 99")
    private static void personNumbers() {
        TableTurns x = told(person("a", "plain", 0, 0, 0) + person("b", "plain", 9, 9, 99));
        int[] most = {9, 9, 99};
        for (int what = 1; what <= 3; what++) {
            due("least", 0, x.person(0, what));
            due("most", most[what - 1], x.person(1, what));
        }
        fault(4, 22, person("a", "plain", 10, 0, 0));
        fault(4, 22, person("a", "plain", 9999, 0, 0));
        fault(4, 30, person("a", "plain", 9, 10, 0));
        fault(4, 38, person("a", "plain", 9, 9, 100));
        fault(1, 22, "person a plain hungry -1 taste");
    }

    @Says("dish: 5 at most, numbered as told")
    private static void fiveDishes() {
        TableTurns x = told(dishes(5));
        due("five", 5, x.count(1));
        for (int i = 0; i < 5; i++) {
            due("bites", i, x.dish(i, 0));
        }
        due("no sixth", NONE, x.dish(5, 0));
        fault(5, dishes(5).length(), dishes(6));
        fault(5, dishes(5).length(), dishes(5) + "dish");
    }

    @Says("bites 0 to 20, salt 0 to 9, cost 0 to 20")
    private static void dishNumbers() {
        TableTurns x = told(dish("p", 0, 0, 0) + dish("q", 20, 9, 20));
        int[] most = {20, 9, 20};
        for (int what = 0; what <= 2; what++) {
            due("least", 0, x.dish(0, what));
            due("most", most[what], x.dish(1, what));
        }
        fault(4, 13, dish("p", 21, 0, 0));
        fault(4, 21, dish("p", 20, 10, 0));
        fault(4, 28, dish("p", 20, 9, 21));
        fault(1, 13, "dish p bites -1 salt");
    }

    @Says("cup: two PEOPLE told, not the same, each pair once")
    private static void cups() {
        StringBuilder text = new StringBuilder(people(6));
        for (char one = 'a'; one <= 'f'; one++) {
            for (char other = 'a'; other < one; other++) {
                text.append("cup ").append(one).append(' ').append(other).append(';');
            }
        }
        due("each pair", 15, told(text.toString()).count(2));
        int at = people(2).length();
        fault(3, at + 6, people(2) + "cup a a;");
        fault(3, at + 14, people(2) + "cup a b;cup a b;");
        fault(3, at + 14, people(2) + "cup a b;cup b a;");
        fault(2, at + 4, people(2) + "cup c a;");
        fault(2, at + 6, people(2) + "cup a c;");
        fault(2, at + 4, people(2) + "cup c c;");
        fault(2, 4, "cup a b;" + people(2));
        fault(2, at + 29 + 6, people(2) + dishes(1) + "cup a p;");
    }

    @Says("from a day (0 to 99) to another one, no less")
    private static void sickDays() {
        int at = people(1).length();
        TableTurns x = told(people(1) + "sick a from 0 to 0;");
        due("day 0", 0, x.person(0, 5));
        x.fast();
        due("day 1", 1, x.person(0, 5));
        x = told(people(1) + "sick a from 99 to 99;");
        fasts(x, 98);
        due("day 98", 1, x.person(0, 5));
        x.fast();
        due("day 99", 0, x.person(0, 5));
        x.fast();
        due("day 100", 1, x.person(0, 5));
        right(people(1) + "sick a from 0 to 99;");
        fault(4, at + 12, people(1) + "sick a from 100 to 100;");
        fault(4, at + 17, people(1) + "sick a from 0 to 100;");
        fault(4, at + 17, people(1) + "sick a from 1 to 0;");
        fault(4, at + 18, people(1) + "sick a from 99 to 98;");
    }

    @Says("sick: a PERSON told")
    private static void sickOfNobody() {
        fault(2, 5, "sick a from 0 to 1;" + people(1));
        fault(2, people(1).length() + 5, people(1) + "sick b from 0 to 1;");
        fault(2, people(1).length() + 29 + 5, people(1) + dishes(1) + "sick p from 0 to 1;");
    }

    @Says("each PERSON once")
    private static void sickOnce() {
        int at = people(2).length();
        right(people(2) + "sick a from 0 to 1;sick b from 0 to 1;");
        fault(3, at + 24, people(2) + "sick a from 0 to 1;sick a from 5 to 6;");
        fault(3, at + 24, people(2) + "sick a from 0 to 0;sick a from 0 to 0;");
    }

    @Says("store 0 to 999 (0)")
    private static void store() {
        due("unsaid", 0, told("rest 1;").count(4));
        due("least", 0, told("store 0;").count(4));
        due("most", 999, told("store 999;").count(4));
        fault(4, 6, "store 1000;");
        fault(4, 6, "store 9999;");
        fault(1, 6, "store -1;");
    }

    @Says("rest 0 to 7 (2)")
    private static void restTold() {
        right("rest 0;");
        right("rest 7;");
        fault(4, 5, "rest 8;");
        fault(4, 5, "rest 9999;");
        TableTurns x = told(people(1) + dishes(1));
        x.eat(0, 0, true);
        x.fast();
        due("unsaid: two days ago is ill", 0, x.eat(0, 0, true));
        fasts(x, 2);
        due("unsaid: three days ago is well", 1, x.eat(0, 0, true));
        x = told(people(1) + dishes(1) + "rest 7;");
        commune(x, people(1) + dishes(1));
        x.eat(0, 0, true);
        fasts(x, 2);
        due("unsaid in the next one: three days ago is well", 1, x.eat(0, 0, true));
    }

    @Says("share: once each")
    private static void onceEach() {
        right("store 1;rest 1;share 1;");
        fault(3, 8, "store 1;store 1;");
        fault(3, 8, "store 0;store");
        fault(3, 7, "rest 2;rest 2;");
        fault(3, 8, "share 1;share 1;");
        fault(3, 23, "share 1;store 1;rest 1;share");
        fault(3, 23, "store 1;share 1;rest 1;store");
    }

    // ---- WEEKS and NAMES

    @Says("WEEKS: any number of")
    private static void weeksLines() {
        TableTurns x = told(people(1) + dishes(1));
        due("no lines", 0, weeks(x, ""));
        due("no lines", 0, x.count(8));
        due("one", 0, weeks(x, "eat a p slow;"));
        due("one", 1, x.count(8));
        due("each kind of line", 0, weeks(x, "none;abroad a p;eat a p fast;eat a p slow;none;"));
        due("five", 5, x.count(8));
        weeksFault(1, 0, "store 5;");
        weeksFault(1, 4, "none");
        weeksFault(1, 5, "none p;");
        weeksFault(1, 11, "abroad a p slow;");
        weeksFault(1, 7, "eat a p;");
        weeksFault(1, 8, "eat a p none;");
    }

    @Says("40 lines at most.")
    private static void fortyLines() {
        TableTurns x = told(people(1) + dishes(1));
        due("forty", 0, weeks(x, "none;".repeat(39) + "eat a p slow;"));
        due("forty", 40, x.count(8));
        for (String first : new String[] {"none;", "eat a p slow;", "abroad a p;", "none", "eat"}) {
            due("41, " + first, 5 + 16 * 200, weeks(x, "none;".repeat(40) + first));
        }
        due("what is no line", 1 + 16 * 200, weeks(x, "none;".repeat(40) + "store"));
        due("these stay", 40, x.count(8));
        due("the last of forty is ended", 1 + 16 * 199, weeks(x, "none;".repeat(39) + "none"));
        due("lines that were read ahead do not count", 0, weeks(x, "none;".repeat(40)));
    }

    @Says("A NAME is another WORD than person, hungry, taste, votes, dish, bites, salt, cost, cup, sick, from, to, store, rest, share, "
        + "eat, abroad, none, slow, fast, the KINDS, not, and, or")
    private static void names() {
        for (String word : RESERVED) {
            fault(1, 7, "person " + word + " plain hungry 1 taste 1 votes 1;");
            fault(1, 5, "dish " + word + " bites 1 salt 1 cost 1;");
            fault(1, people(1).length() + 4, people(1) + "cup " + word + " a;");
            fault(1, people(1).length() + 6, people(1) + "cup a " + word + ";");
            fault(1, people(1).length() + 5, people(1) + "sick " + word + " from");
            weeksFault(1, 4, "eat " + word + " p slow;");
            weeksFault(1, 6, "eat a " + word + " slow;");
            weeksFault(1, 7, "abroad " + word + " p;");
            weeksFault(1, 9, "abroad a " + word + ";");
            if (word.length() < 8) {
                right(plain(word + "x", 1) + dish("x" + word, 1, 1, 1));
            }
        }
        for (String fact : new String[] {"mouthful", "off", "seats", "slowly", "own", "weeks", "kind", "test"}) {
            right(plain(fact, 1));
            right(dish(fact, 1, 1, 1));
        }
    }

    @Says("no two (PEOPLE, DISHES) are alike")
    private static void namesAlike() {
        fault(3, plain("x", 1).length() + 7, plain("x", 1) + plain("x", 1));
        fault(3, dishes(1).length() + 5, dishes(1) + dishes(1));
        fault(3, plain("p", 1).length() + 5, plain("p", 1) + dishes(1));
        fault(3, dishes(1).length() + 7, dishes(1) + plain("p", 1));
        fault(3, hungryPeople(5, 1).length() + 7, hungryPeople(5, 1) + plain("e", 1));
        fault(3, dishes(4).length() + 5, dishes(4) + dish("s", 1, 1, 1));
        right(plain("x", 1) + plain("xx", 1) + dish("xxx", 1, 1, 1));
        right(plain("a", 1) + plain("aa", 1) + plain("aaa", 1) + plain("aaaaaaaa", 1) + dish("ab", 1, 1, 1) + dish("b", 1, 1, 1));
    }

    // ---- E

    @Says("E: TEST { and TEST or or TEST }, from the left")
    private static void fromTheLeft() {
        share("1 or 1 and 0", 0);
        share("0 and 0 or 1", 1);
        share("1 or (1 and 0)", 1);
        share("20-5-3", 12);
        shareFault(1, 4, "1 or;");
        shareFault(1, 0, "and 1;");
        shareFault(1, 6, "1 and or 1;");
    }

    @Says("TEST: SUM, or SUM < SUM, or SUM = SUM")
    private static void oneTest() {
        share("1<2", 1);
        share("2+2=2*2", 1);
        shareFault(1, 3, "1<2<3;");
        shareFault(1, 3, "1<2=3;");
        shareFault(1, 3, "1=2=3;");
        shareFault(1, 3, "1=2<3;");
        shareFault(1, 4, "(1<2<3);");
        shareFault(1, 5, "1<2+3<4;");
        shareFault(1, 5, "1<2*3=4;");
        shareFault(1, 7, "1=2+3*4<5;");
        share("(1<2)=1", 1);
        share("1<2 and 2<3", 1);
    }

    @Says("SUM: PRODUCT { + or - PRODUCT }; PRODUCT: PART { * PART }")
    private static void sums() {
        share("1+2*3", 7);
        share("2*3+1", 7);
        share("9-2*3", 3);
        shareFault(1, 0, ";");
        shareFault(1, 0, "+1;");
        shareFault(1, 0, "-1;");
        shareFault(1, 0, "*1;");
        shareFault(1, 2, "1*;");
        shareFault(1, 2, "1 1;");
        shareFault(1, 2, "1--1;");
    }

    @Says("PART: a NUMBER, a fact, not PART, ( E )")
    private static void parts() {
        share("0", 0);
        share("9999", 99);
        share("not 0", 1);
        share("not 0*9", 9);
        share("not 0<1", 0);
        share("(not 0)<2", 1);
        shareFault(1, 0, "a;");
        shareFault(1, 0, "hungry;");
        shareFault(1, 4, "not ;");
        shareFault(1, 1, "();");
        shareFault(1, 2, "(1;");
        shareFault(1, 2, "(1");
        shareFault(1, 1, "1);");
        shareFault(1, 3, "(1));");
    }

    @Says("no PART lies within 5 of not and ( )")
    private static void deepParts() {
        share("((((7))))", 7);
        share("not not not not 7", 1);
        share("not(not(7))", 1);
        share("((((7))))+((((1))))*not not not not 3", 8);
        shareFault(5, 5, "(((((7)))));");
        shareFault(5, 20, "not not not not not 7;");
        shareFault(5, 9, "not(not((own)));");
        shareFault(5, 9, "7+7*(((((7)))));");
        shareFault(5, 7, "((((7+(7)))));");
        share("not not not not 3+((((1))))", 2);
        TableTurns x = new TableTurns();
        for (String cut : new String[] {"share (((((", "share not not not not ", "share 1<", "share ((((1<2", "share 1 and(2"}) {
            due("cut off", 1 + 16 * cut.length(), commune(x, cut));
            due("nothing is left open behind it", 0, commune(x, "share ((((1<2))))<3;"));
            due("cut off again", 1 + 16 * cut.length(), commune(x, cut));
            due("nothing is left open behind it", 0, commune(x, "share 1<2;"));
        }
    }

    @Says("off (how far its salt is from the eater's taste)")
    private static void off() {
        String law = "share off;";
        TableTurns x = told(person("a", "plain", 0, 9, 0) + person("b", "plain", 0, 0, 0) + dish("p", 0, 0, 0) + dish("q", 0, 9, 0) + law);
        due("0 by 9", 9, x.would(0, 0, true, 0));
        due("9 by 9", 0, x.would(0, 1, true, 0));
        due("0 by 0", 0, x.would(1, 0, true, 1));
        due("9 by 0", 9, x.would(1, 1, true, 1));
        due("the eater's, not the other one's", 9, x.would(0, 0, true, 1));
    }

    @Says("seats (how many seats one is from him)")
    private static void seats() {
        TableTurns x = told(people(6) + dishes(1) + "share seats;");
        for (int eater = 0; eater < 6; eater++) {
            for (int i = 0; i < 6; i++) {
                due("seats", eater > i ? eater - i : i - eater, x.would(eater, 0, true, i));
            }
        }
    }

    @Says("mouthful (the DISH's bites)")
    private static void mouthful() {
        TableTurns x = told(people(1) + dish("p", 0, 0, 0) + dish("q", 20, 0, 0) + "share mouthful;");
        due("0", 0, x.would(0, 0, true, 0));
        due("20", 20, x.would(0, 1, true, 0));
    }

    @Says("slowly (1, else 0), own (1 of the eater himself, else 0)")
    private static void slowlyAndOwn() {
        share("slowly", 1, 0);
        TableTurns x = told(people(2) + dishes(1) + "share own;");
        due("himself", 1, x.would(1, 0, true, 1));
        due("another one", 0, x.would(1, 0, true, 0));
    }

    @Says("Of not, and, or, < and = comes 1 or 0; what is not 0 is so")
    private static void truths() {
        share("not 7", 0);
        share("not 0", 1);
        share("not(0-1)", 0);
        share("5 and 7", 1);
        share("2 and 4", 1);
        share("0-3 and 1", 1);
        share("5 and 0", 0);
        share("0 or 9", 1);
        share("0 or 0-9", 1);
        share("0 or 0", 0);
        share("3<4", 1);
        share("4<4", 0);
        share("0-1<0", 1);
        share("4=4", 1);
        share("4=5", 0);
    }

    @Says("ints wrap")
    private static void intsWrap() {
        share("8192*8192*32", 0);
        share("8192*8192*32<0", 1);
        share("8192*8192*32-1", 99);
        share("0-8192*8192*32<0", 1);
        share("8192*8192*32-1+1<0", 1);
        share("8192*8192*64+5", 5);
        share("8192*8192*64=0", 1);
        share("9999*9999*9999*9999", 99);
        share("9999*9999*9999", 0);
    }

    @Says("Without share: mouthful - off - seats.")
    private static void withoutShare() {
        TableTurns x = told(people(3) + dish("p", 9, 4, 0));
        due("9 - 4 - 0", 5, x.would(0, 0, true, 0));
        due("9 - 4 - 2", 3, x.would(0, 0, false, 2));
        for (int i = 0; i < 3; i++) {
            commune(x, people(3) + dish("p", 9, 4, 0) + "share 1;");
            due("with one", 1, x.would(0, 0, true, 1));
        }
        for (int i = 0; i < 3; i++) {
            commune(x, people(3) + dish("p", 9, 4, 0));
            due("without one again", 4, x.would(0, 0, true, 1));
        }
        String[] laws = {"share 1+2+3*not 4;", "share 1+2+3*not 4;", "share 1+2+3;", "share 1+2+3;", "share 5;", "share 5;"};
        int[] shares = {3, 3, 6, 6, 5, 5};
        for (int i = 0; i < laws.length; i++) {
            commune(x, people(1) + dishes(1) + laws[i]);
            due("nothing is left of the law ahead", shares[i], x.would(0, 0, true, 0));
        }
    }

    // ---- FAULTS

    @Says("kind + 16 * the place (from 0) of a token, the end being one at the text's length")
    private static void places() {
        fault(1, 0, "?");
        fault(1, 3, "  \n?");
        fault(1, 5, "store");
        fault(1, 8, "store \n ");
        fault(1, 7, "store 5");
        fault(1, 7, "person ");
        fault(1, 1000, "share 1+" + blanks(992));
        fault(1, 999, "store 1" + blanks(992) + "?");
        TableTurns x = told("store 123;");
        due("nothing is left of the text ahead", 1 + 16 * 7, commune(x, "store 1"));
        due("nothing is left of the text ahead", 1 + 16 * 5, commune(x, "store"));
        due("nothing is left of the text ahead", 1, commune(x, "stor"));
        due("weeks", 1 + 16 * 9, weeks(told(people(1) + dishes(1)), "none;eat "));
        due("a name that is left out", 1 + 16 * 12, commune(new TableTurns(), "store 5;cup "));
    }

    @Says("of the first token from the left that is wrong the least")
    private static void firstWrong() {
        fault(4, 6, "store 1000;rest 8;");
        fault(4, 6, "store 1000?");
        fault(1, 6, "store 10000;");
        fault(2, 4, "cup a a;");
        fault(1, 11, "share (((((;");
        fault(1, 11, "share ((((()");
        fault(1, 11, "share (((((salt");
        fault(1, 11, "share (((((+");
        fault(1, 11, "share (((((");
        fault(1, 11, "share (((((10000");
        String six = hungryPeople(6, 1);
        fault(5, six.length(), six + "person person");
        fault(3, 8, "store 1;store 1000;");
        weeksFault(1, 200, "none;".repeat(40) + "nones;");
        weeksFault(2, 4, "eat x y z");
    }

    @Says("1 it is none, or can't stand there")
    private static void cantStand() {
        String[] lines = {"person a plain hungry 1 taste 1 votes 1 ;", "person b old hungry 1 taste 1 votes 1 ;",
            "dish p bites 1 salt 1 cost 1 ;", "cup a b ;", "sick a from 1 to 2 ;", "store 5 ;", "rest 1 ;",
            "share ( 1 + off ) * not 0 < 5 and own = 1 or slowly ;"};
        String before = "";
        for (String line : lines) {
            for (String wrongOne : new String[] {"?", "abcdefghi", "12345", "A", "/", ">"}) {
                cantStandIn(before, line, wrongOne);
            }
            before += line;
        }
        right(before);
        for (String line : new String[] {"eat a p slow ;", "eat b q fast ;", "abroad a p ;", "none ;"}) {
            for (int from = 0; from >= 0; from = nextToken(line, from)) {
                weeksFault(1, 5 + from, "none;" + line.substring(0, from) + "? ;");
                if (from > 0) {
                    weeksFault(1, 5 + from, "none;" + line.substring(0, from));
                }
            }
        }
    }

    /** Each token of a line in its turn is another one, or is the end. */
    private static void cantStandIn(String before, String line, String wrongOne) {
        for (int from = 0; from >= 0; from = nextToken(line, from)) {
            fault(1, before.length() + from, before + line.substring(0, from) + wrongOne + " ;");
            if (from > 0) {
                fault(1, before.length() + from, before + line.substring(0, from));
            }
        }
    }

    private static int nextToken(String line, int from) {
        int blank = line.indexOf(' ', from);
        return blank < 0 ? -1 : blank + 1;
    }

    @Says("2 a NAME of no PERSON (behind cup, sick, eat, abroad), of no DISH (the second of eat, abroad) told")
    private static void nobodyTold() {
        int at = people(2).length();
        fault(2, at + 4, people(2) + "cup x a;");
        fault(2, at + 6, people(2) + "cup a x;");
        fault(2, at + 5, people(2) + "sick x from 0 to 1;");
        weeksFault(2, 4, "eat x p slow;");
        weeksFault(2, 6, "eat a x slow;");
        weeksFault(2, 7, "abroad x p;");
        weeksFault(2, 9, "abroad a x;");
        weeksFault(2, 4, "eat p p slow;");
        weeksFault(2, 6, "eat a b slow;");
        weeksFault(2, 7, "abroad q p;");
        weeksFault(2, 9, "abroad a a;");
        due("by nobody", 2 + 16 * 4, weeks(new TableTurns(), "eat a p slow;"));
        TableTurns x = told(people(2) + dishes(2));
        commune(x, people(1) + dishes(1));
        due("b is told no more", 2 + 16 * 4, weeks(x, "eat b p slow;"));
        due("q is told no more", 2 + 16 * 6, weeks(x, "eat a q slow;"));
        commune(x, people(3) + dishes(3) + "?");
        due("c is not told by a fault", 2 + 16 * 4, weeks(x, "eat c p slow;"));
    }

    @Says("3 a NAME told already, the second one of cup that is the first one or of a pair told; sick of a PERSON told so already; "
        + "store, rest, share a second time")
    private static void toldAlready() {
        int at = people(2).length();
        fault(3, at + 7, people(2) + "person b");
        fault(3, at + 5, people(2) + "dish b");
        fault(3, at + 6, people(2) + "cup b b");
        fault(3, at + 14, people(2) + "cup a b;cup a b");
        fault(3, at + 14, people(2) + "cup a b;cup b a");
        fault(3, at + 24, people(2) + "sick b from 0 to 9;sick b");
        fault(3, 8, "store 1;store");
        fault(3, 7, "rest 1;rest");
        fault(3, 8, "share 1;share");
        TableTurns x = told(people(2) + "store 1;rest 1;share 1;sick a from 0 to 1;cup a b;");
        due("told anew in another text", 0, commune(x, people(2) + "store 1;rest 1;share 1;sick a from 0 to 1;cup a b;"));
        commune(x, people(2) + "store 1;rest 1;share 1;sick a from 0 to 1;cup a b;?");
        due("told anew behind a fault", 0, commune(x, people(2) + "store 1;rest 1;share 1;sick a from 0 to 1;cup a b;"));
    }

    @Says("4 a NUMBER that is not as told")
    private static void wrongNumbers() {
        fault(4, 6, "store 1000");
        fault(4, 5, "rest 8");
        fault(4, 22, "person a plain hungry 10");
        fault(4, 13, "dish p bites 21");
        fault(4, people(1).length() + 12, people(1) + "sick a from 100");
        fault(4, people(1).length() + 17, people(1) + "sick a from 9 to 8");
        right("share 9999;");
    }

    @Says("5 one too many: the words person of a seventh, dish of a sixth, the first word of a 41st line of WEEKS; not, or a PART, "
        + "within 5 others")
    private static void oneTooMany() {
        String six = hungryPeople(6, 1);
        fault(5, six.length(), six + "person");
        fault(1, six.length(), six + "persons");
        right(six + dishes(5));
        fault(5, dishes(5).length(), dishes(5) + "dish");
        weeksFault(5, 200, "none;".repeat(40) + "none;");
        shareFault(5, 5, "(((((1");
        shareFault(5, 5, "(((((mouthful");
        shareFault(5, 5, "(((((not 1");
        shareFault(5, 5, "((((((1");
        shareFault(5, 20, "not not not not not 1");
        shareFault(5, 20, "not not not not not not 1");
        shareFault(5, 20, "not not not not not (1)");
        shareFault(5, 8, "((((not 1))));");
    }

    @Says("Without a FAULT a COMMUNE is the COMMUNE from then on: day 0, the store as told, all are FULL by 50, nobody has eaten, "
        + "no WEEKS, nothing TOLD, nothing can be undone, no MARK is there.")
    private static void communeAnew() {
        TableTurns x = told(hungryPeople(6, 9) + dishes(2) + "store 9;cup a b;");
        x.eat(0, 0, true);
        x.eat(0, 0, true);
        fasts(x, 6);
        weeks(x, "none;");
        x.tell(0, 5);
        x.mark(0, false);
        x.mark(3, false);
        due("with a fault", 1 + 16 * 8, commune(x, "store 3;?"));
        due("the day stays", 8, x.count(3));
        due("the store stays", 9, x.count(4));
        due("without one", 0, commune(x, hungryPeople(2, 9) + dishes(1) + "store 3;"));
        int[] counts = {2, 1, 0, 0, 3, 3, 0, 0, 0, 0, 0, 0, 100};
        for (int what = 0; what < counts.length; what++) {
            due("count " + what, counts[what], x.count(what));
        }
        for (int i = 0; i < 2; i++) {
            due("full by 50", 50, x.person(i, 4));
            due("has not eaten", NONE, x.person(i, 6));
            due("was never hungry", 0, x.person(i, 7));
        }
        due("nothing can be undone", false, x.undo());
        for (int mark = 0; mark < 4; mark++) {
            due("no mark", false, x.mark(mark, true));
        }
        due("no third person", NONE, x.person(2, 0));
        due("no second dish", NONE, x.dish(1, 0));
        String one = person("a", "greedy", 1, 2, 3) + person("b", "loved", 4, 5, 6) + dish("p", 1, 2, 3)
            + "cup a b;sick a from 0 to 9;store 7;rest 7;share 3;";
        String other = person("a", "plain", 0, 0, 0) + person("b", "old", 0, 0, 0) + dish("p", 4, 0, 0);
        for (int i = 0; i < 6; i++) {
            String text = i < 3 ? one : other;
            commune(x, text);
            stays("what was told ahead", all(told(text)), x);
            x.eat(1, 0, true);
            fasts(x, 2);
            due("rest", i < 3 ? 0 : 1, x.eat(1, 0, true));
            x.undo();
            due("the law", i < 3 ? NONE : 4, x.would(0, 0, true, 0));
        }
    }

    @Says("WEEKS are the WEEKS.")
    private static void weeksAnew() {
        TableTurns x = told(people(1) + dishes(1));
        weeks(x, "none;none;none;");
        due("in place of the elder", 0, weeks(x, "none;"));
        due("one line", 1, x.count(8));
        due("a fault behind two lines", 1 + 16 * 10, weeks(x, "none;none;?"));
        due("still one line", 1, x.count(8));
        due("the day stays", 0, x.count(3));
    }

    @Says("At first: nothing.")
    private static void atFirst() {
        TableTurns x = new TableTurns();
        for (int what = 0; what <= 12; what++) {
            due("count " + what, 0, x.count(what));
        }
        for (int i = -1; i <= 1; i++) {
            due("nobody", NONE, x.person(i, 4));
            due("nothing", NONE, x.dish(i, 0));
            due("no meal", NONE, x.eat(i, 0, true));
            due("no meal to be", NONE, x.would(i, 0, true, 0));
            due("nothing abroad", NONE, x.abroad(i, 0));
            due("no tables", -2, x.tables(i, NONE));
            due("no last", NONE, x.last(i));
            due("nothing to tell", false, x.tell(i, 50));
            due("no sets", NONE, x.sets(i, 0));
            due("no stop", NONE, x.stop(i));
            due("no power", NONE, x.power(i, 0));
        }
        due("no line", NONE, x.judged(0));
        due("no store", 0, x.judged(3));
        due("no days", NONE, x.plan(0, 1));
        due("no couples", 0, x.couples(NONE));
        due("whose", -2, x.couples(0));
        due("nothing to undo", false, x.undo());
        due("no mark", false, x.mark(0, true));
        due("years of nobody", 0, x.years(0, 100, 0));
        due("no weeks by people", 2 + 16 * 4, weeks(x, "eat a p slow;"));
        due("weeks without", 0, weeks(x, "none;"));
        due("a fast", 1, x.fast());
        due("undone", true, x.undo());
    }

    // ---- MEALS, ABROAD, FASTS

    @Says("On a DAY who is not sick SITS.")
    private static void sits() {
        TableTurns x = told(people(6) + "sick a from 0 to 99;sick f from 1 to 2;");
        int[] sitting = {62, 30, 30, 62};
        for (int day = 0; day < sitting.length; day++) {
            due("day " + day, sitting[day], x.count(5));
            due("f", sitting[day] >> 5, x.person(5, 5));
            x.fast();
        }
        due("nobody but one", 0, told(people(1) + "sick a from 0 to 0;").count(5));
    }

    @Says("a PERSON who SITS eats a DISH")
    private static void eaterSits() {
        TableTurns x = told(people(2) + dishes(1) + "sick a from 1 to 1;rest 0;");
        due("day 0", 1, x.eat(0, 0, true));
        due("day 1", NONE, x.eat(0, 0, true));
        due("day 1 still", 1, x.count(3));
        x.fast();
        due("day 2", 1, x.eat(0, 0, true));
    }

    @Says("the store has its cost (a greedy one's twice), which it loses")
    private static void storeHasIt() {
        String two = person("a", "plain", 0, 0, 0) + person("b", "greedy", 0, 0, 0) + dish("p", 0, 0, 6) + "rest 0;";
        TableTurns x = told(two + "store 6;");
        due("6 of 6", 1, x.eat(0, 0, true));
        due("0 is left", 0, x.count(4));
        due("6 of 0", NONE, x.eat(0, 0, true));
        due("6 of 5", NONE, told(two + "store 5;").eat(0, 0, false));
        x = told(two + "store 12;");
        due("12 of 12", 1, x.eat(1, 0, true));
        due("0 is left", 0, x.count(4));
        x = told(two + "store 11;");
        due("12 of 11", NONE, x.eat(1, 0, true));
        due("11 are left", 11, x.count(4));
        due("no day by it", 0, x.count(3));
        due("nothing to undo by it", 0, x.count(10));
        x = told(person("a", "greedy", 0, 0, 0) + dish("p", 0, 0, 0) + dish("q", 0, 0, 20) + "store 40;rest 0;");
        due("for nothing", 1, x.eat(0, 0, true));
        due("40 of 40", 1, x.eat(0, 1, true));
        due("for nothing, of nothing", 1, x.eat(0, 0, true));
    }

    @Says("If he ate a MEAL in one of the last rest days (told days ago: 1 to rest), he is ILL: nobody is filled.")
    private static void ill() {
        for (int rest = 0; rest <= 7; rest++) {
            for (int ago = 1; ago <= 8; ago++) {
                TableTurns x = told(people(2) + dishes(1) + "share 1;rest " + rest + ";");
                due("the first", 1, x.eat(0, 0, true));
                fasts(x, ago - 1);
                boolean isIll = ago <= rest;
                due("by rest " + rest + " would " + ago + " days ago", isIll ? 0 : 1, x.would(0, 0, true, 1));
                due("by rest " + rest + ", " + ago + " days ago", isIll ? 0 : 1, x.eat(0, 0, true));
                due("ill", isIll ? 1 : 0, x.count(7));
                due("filled", isIll ? 102 : 104, x.count(12));
            }
        }
        TableTurns x = told(people(2) + dishes(1));
        x.eat(0, 0, true);
        due("another one is well", 1, x.eat(1, 0, true));
        due("two days ago", 0, x.eat(0, 0, true));
        x.fast();
        due("two days ago he was ill: that was a meal", 0, x.eat(0, 0, true));
        x.abroad(0, 0);
        fasts(x, 2);
        x.abroad(0, 0);
        due("abroad is none", 1, x.eat(0, 0, true));
    }

    @Says("Else each who SITS is filled by his SHARE")
    private static void sickAreNotFilled() {
        TableTurns x = told(people(3) + dishes(1) + "share 5;sick b from 0 to 0;");
        x.eat(0, 0, true);
        due("the eater", 55, x.person(0, 4));
        due("a sick one", 50, x.person(1, 4));
        due("another one", 55, x.person(2, 4));
    }

    @Says("the E of share (0 below it, 99 above)")
    private static void cutShare() {
        share("0-9999", 0);
        share("0-1", 0);
        share("0", 0);
        share("1", 1);
        share("98", 98);
        share("99", 99);
        share("100", 99);
        share("9999", 99);
    }

    @Says("a greedy eater himself twice")
    private static void greedyTwice() {
        TableTurns x = told(person("a", "greedy", 0, 0, 0) + plain("b", 0) + dishes(1) + "share 7;");
        due("himself", 14, x.would(0, 0, true, 0));
        due("another one", 7, x.would(0, 0, true, 1));
        due("by another one", 7, x.would(1, 0, true, 0));
        x = told(person("a", "greedy", 0, 0, 0) + dishes(1) + "share 0-7;");
        due("of nothing", 0, x.would(0, 0, true, 0));
        x = told(person("a", "greedy", 0, 0, 0) + dishes(1) + "share 60;");
        x.eat(0, 0, true);
        due("99 at most", 99, x.person(0, 4));
    }

    @Says("of a loved one the others by one more, of an old one by one less (0 at least)")
    private static void lovedAndOld() {
        int[] laws = {0, 1, 2, 99, 100};
        int[] shares = {0, 1, 2, 99, 99};
        int[] byOld = {0, 0, 1, 98, 98};
        for (int i = 0; i < laws.length; i++) {
            TableTurns x = told(person("a", "loved", 0, 0, 0) + person("b", "old", 0, 0, 0) + plain("c", 0) + dishes(1)
                + "share " + laws[i] + ";");
            due("loved himself", shares[i], x.would(0, 0, true, 0));
            due("by a loved one", shares[i] + 1, x.would(0, 0, true, 2));
            due("old himself", shares[i], x.would(1, 0, true, 1));
            due("by an old one", byOld[i], x.would(1, 0, true, 2));
            due("old by a loved one", shares[i] + 1, x.would(0, 0, true, 1));
            due("loved by an old one", byOld[i], x.would(1, 0, true, 0));
            due("by a plain one", shares[i], x.would(2, 0, true, 0));
        }
        TableTurns x = told(person("a", "loved", 0, 0, 0) + plain("b", 0) + dishes(1) + "share 0-9;");
        due("one more than nothing", 1, x.would(0, 0, true, 1));
    }

    @Says("FULL then, 99 at most")
    private static void mostFull() {
        for (int law = 48; law <= 51; law++) {
            TableTurns x = told(people(2) + dishes(1) + "share " + law + ";");
            x.eat(0, 0, true);
            due("of 50 by " + law, Math.min(99, 50 + law), x.person(1, 4));
        }
        TableTurns x = told(hungryPeople(1, 9) + dishes(1) + "share 60;rest 0;");
        x.eat(0, 0, true);
        due("99, less 9", 90, x.person(0, 4));
        x.eat(0, 0, true);
        due("99 again, less 9", 90, x.person(0, 4));
    }

    @Says("ABROAD: a PERSON eats a DISH for himself alone, sick or not")
    private static void abroadSick() {
        TableTurns x = told(people(3) + dishes(1) + "share 5;sick b from 0 to 9;");
        due("sick", 55, x.abroad(1, 0));
        due("not sick", 55, x.abroad(2, 0));
        due("the others are not filled", 160, x.count(12));
    }

    @Says("he is filled by the E of share (0 below it, 99 above; own 1, seats 0, fast; whatever he is)")
    private static void abroadShare() {
        String[] laws = {"0-5", "0", "48", "49", "50", "9999", "own*3", "own+seats*9", "slowly*9", "7-slowly", "mouthful", "off"};
        int[] full = {50, 50, 98, 99, 99, 99, 53, 51, 50, 57, 58, 54};
        String[] kinds = {"plain", "greedy", "loved", "old"};
        for (int i = 0; i < laws.length; i++) {
            for (String kind : kinds) {
                TableTurns x = told(plain("a", 0) + person("b", kind, 0, 5, 0) + dish("p", 8, 9, 9) + "share " + laws[i] + ";");
                due(kind + " by " + laws[i], full[i], x.abroad(1, 0));
            }
        }
    }

    @Says("nothing of the store, no MEAL; as often as he likes")
    private static void abroadOften() {
        TableTurns x = told(person("a", "greedy", 0, 0, 0) + dish("p", 0, 0, 20) + "share 1;store 40;");
        for (int i = 1; i <= 60; i++) {
            due("abroad", Math.min(99, 50 + i), x.abroad(0, 0));
        }
        due("the store", 40, x.count(4));
        due("no meal", NONE, x.person(0, 6));
        due("the day", 0, x.count(3));
        due("not ill by it", 1, x.eat(0, 0, true));
        x = told(people(1) + dish("p", 0, 0, 20) + "share 1;");
        due("without a store", 51, x.abroad(0, 0));
    }

    @Says("A FAST: no MEAL.")
    private static void fastIsNoMeal() {
        TableTurns x = told(people(1) + dishes(1) + "store 5;rest 7;");
        due("a fast", 1, x.fast());
        due("no meal", NONE, x.person(0, 6));
        due("the store", 5, x.count(4));
        due("full", 50, x.person(0, 4));
        due("not ill by it", 1, x.eat(0, 0, true));
    }

    @Says("each one's FULL is less by his hunger; who has less than that is HUNGRY (0 then); then it is the next day")
    private static void dayEnds() {
        for (int hunger = 1; hunger <= 9; hunger++) {
            TableTurns x = told(hungryPeople(1, hunger) + dishes(1) + "sick a from 0 to 99;");
            int days = 50 / hunger;
            for (int day = 1; day <= days; day++) {
                due("the day", day, x.fast());
                due("full by hunger " + hunger, 50 - day * hunger, x.person(0, 4));
            }
            due("not hungry", 0, x.person(0, 7));
            x.fast();
            due("hungry by " + hunger, 1, x.person(0, 7));
            due("0 then", 0, x.person(0, 4));
            x.fast();
            due("hungry again", 2, x.person(0, 7));
            due("0 still", 0, x.person(0, 4));
        }
        TableTurns x = told(people(1));
        fasts(x, 60);
        due("hunger 0", 50, x.person(0, 4));
        due("never hungry", 0, x.person(0, 7));
        x = told(hungryPeople(2, 9) + dishes(1) + "share own*4;");
        fasts(x, 5);
        x.eat(0, 0, true);
        due("5 and 4 is just enough", 0, x.person(0, 7));
        due("5 is not", 1, x.person(1, 7));
        due("one in all", 1, x.count(6));
    }

    @Says("UNDO: these, the last 16, one by one.")
    private static void sixteenUndone() {
        TableTurns x = told(hungryPeople(1, 9) + dish("p", 0, 0, 1) + "store 99;rest 7;");
        for (int i = 1; i <= 17; i++) {
            x.eat(0, 0, true);
            due("what can be undone", Math.min(16, i), x.count(10));
        }
        due("hungry", 12, x.person(0, 7));
        due("ill", 16, x.count(7));
        for (int left = 15; left >= 0; left--) {
            due("undone", true, x.undo());
            due("left", left, x.count(10));
            due("the day", left + 1, x.count(3));
            due("the store", 99 - left - 1, x.count(4));
            due("ate", left, x.person(0, 6));
            due("ill", left, x.count(7));
            due("hungry", Math.max(0, left - 4), x.count(6));
        }
        due("the seventeenth is not", false, x.undo());
        due("the day stays", 1, x.count(3));
        x.abroad(0, 0);
        x.fast();
        x.eat(0, 0, true);
        due("a meal, a fast, what is eaten abroad", 3, x.count(10));
        x.undo();
        x.undo();
        due("abroad is left", 1, x.count(10));
        due("undone", true, x.undo());
        due("nothing is left", false, x.undo());
        x.eat(1, 0, true);
        x.abroad(1, 0);
        x.abroad(0, 1);
        due("what can't be is not undone", false, x.undo());
    }

    // ---- JUDGED

    @Says("JUDGED: the WEEKS from the beginning (a line that can't be is left out)")
    private static void judgedFromTheBeginning() {
        TableTurns x = told(people(2) + dish("p", 0, 0, 3) + "store 7;rest 0;sick b from 1 to 1;");
        x.eat(0, 0, true);
        x.eat(0, 0, true);
        due("1 is left", 1, x.count(4));
        weeks(x, "eat b p slow;eat b p slow;eat a p slow;eat b p slow;none;");
        due("b is sick", 1, x.judged(0));
        due("7 less 3 and 3", 1, x.judged(3));
        due("left out: no day by it, b is still sick", 1, x.judged(0));
        weeks(x, "eat a p slow;eat a p slow;eat a p slow;");
        due("too dear", 2, x.judged(0));
        due("the store now", 1, x.count(4));
        due("the day now", 2, x.count(3));
        // Were the line that can't be a day, b would sit on the next one.
        weeks(x, "none;eat b p slow;eat b p slow;");
        due("both can't be", 7, x.judged(3));
    }

    @Says("the first line (from 0) that can't be; the first one by which somebody was HUNGRY; the first one by which somebody was ILL; "
        + "what is left in the store")
    private static void judgedLines() {
        TableTurns x = told(hungryPeople(1, 9) + dish("p", 0, 0, 1) + "store 3;");
        due("no weeks: can't be", NONE, x.judged(0));
        due("no weeks: hungry", NONE, x.judged(1));
        due("no weeks: ill", NONE, x.judged(2));
        due("no weeks: store", 3, x.judged(3));
        weeks(x, "eat a p slow;eat a p slow;eat a p slow;eat a p slow;none;none;none;none;");
        due("can't be", 3, x.judged(0));
        due("hungry on the sixth day, its line is 6", 6, x.judged(1));
        due("ill", 1, x.judged(2));
        due("store", 0, x.judged(3));
        weeks(x, "none;".repeat(39) + "eat a p slow;");
        due("the last line can be", NONE, x.judged(0));
        due("hungry", 5, x.judged(1));
        due("nobody is ill", NONE, x.judged(2));
        due("store", 2, x.judged(3));
        x = told(people(1) + dish("p", 0, 0, 1));
        weeks(x, "eat a p slow;");
        due("line 0", 0, x.judged(0));
        weeks(x, "none;".repeat(39) + "eat a p slow;");
        due("line 39", 39, x.judged(0));
        x = told(people(1) + dishes(1));
        weeks(x, "none;".repeat(38) + "eat a p slow;eat a p slow;");
        due("ill by line 39", 39, x.judged(2));
        x = told(hungryPeople(1, 5) + dishes(1));
        weeks(x, "none;".repeat(10) + "abroad a p;" + "none;");
        due("hungry by line 11, not by what is eaten abroad", 11, x.judged(1));
        due("what is eaten abroad can be", NONE, x.judged(0));
        x = told(hungryPeople(1, 5) + dishes(2) + "share mouthful*5;");
        weeks(x, "none;".repeat(10) + "abroad a q;" + "none;none;");
        due("filled by what is eaten abroad: line 12", 12, x.judged(1));
        x = told(hungryPeople(1, 5) + dishes(2) + "share mouthful*5*slowly;");
        weeks(x, "none;".repeat(10) + "eat a q slow;none;");
        due("filled slowly: line 11", 11, x.judged(1));
        weeks(x, "none;".repeat(10) + "eat a q fast;none;");
        due("fast not: line 10", 10, x.judged(1));
    }

    // ---- WOULD and PLAN

    @Says("WOULD: what a MEAL today would give to one")
    private static void wouldToday() {
        TableTurns x = told(people(2) + dish("p", 5, 0, 2) + "share 5;store 5;sick a from 1 to 1;");
        due("today", 5, x.would(0, 0, true, 1));
        x.fast();
        due("sick: it can't be", NONE, x.would(0, 0, true, 1));
        due("to the sick nothing", 0, x.would(1, 0, true, 0));
        x.fast();
        due("well again", 5, x.would(0, 0, true, 1));
        x.eat(0, 0, true);
        due("ill: nobody is filled", 0, x.would(0, 0, true, 0));
        x.eat(1, 0, true);
        due("too dear", NONE, x.would(0, 0, true, 0));
    }

    @Says("PLAN for so many days (0 to 3)")
    private static void planDays() {
        TableTurns x = told(hungryPeople(1, 9) + dish("p", 9, 0, 2) + "store 99;rest 0;");
        fasts(x, 5);
        due("no days", 0, x.plan(0, 0));
        due("none first", NONE, x.plan(0, 1));
        for (int days = 1; days <= 3; days++) {
            due("days " + days, 2 * days, x.plan(days, 0));
            due("the first of days " + days, 0, x.plan(days, 1));
        }
        due("no days behind three", NONE, x.plan(0, 1));
        for (int days : new int[] {-1, 4, LEAST, MOST}) {
            due("days " + days, -2, x.plan(days, 0));
            due("days " + days, -2, x.plan(days, 1));
        }
    }

    @Says("MEALS or FASTS by which nobody is HUNGRY: the least cost together")
    private static void planLeast() {
        TableTurns x = told(hungryPeople(2, 9) + dish("p", 20, 0, 3) + dish("q", 20, 0, 2) + "store 2;share mouthful*own*slowly+1;");
        fasts(x, 5);
        due("a alone is fed", -2, x.plan(1, 0));
        due("none has no first", -2, x.plan(1, 1));
        x = told(hungryPeople(2, 9) + dish("p", 20, 0, 3) + dish("q", 4, 0, 2) + "store 3;share mouthful;");
        fasts(x, 5);
        due("4 is just enough", 2, x.plan(1, 0));
        due("a, q", 2, x.plan(1, 1));
        due("p for two days", 3, x.plan(2, 0));
        due("a, p", 0, x.plan(2, 1));
        due("three days can't be", -2, x.plan(3, 0));
        x = told(hungryPeople(1, 9) + dish("p", 3, 0, 1) + "store 9;");
        fasts(x, 5);
        due("3 is one too few", -2, x.plan(1, 0));
        x = told(hungryPeople(1, 9) + dish("p", 3, 0, 1) + dish("q", 4, 0, 1) + "store 9;");
        fasts(x, 5);
        due("4 of the next dish", 2, x.plan(1, 1));
        x = told(hungryPeople(1, 3));
        fasts(x, 15);
        due("5 is enough to fast", 0, x.plan(1, 0));
        x.fast();
        due("2 is one too few to fast", -2, x.plan(1, 0));
        x = told(hungryPeople(2, 9) + dish("p", 20, 0, 3) + "store 9;share 20;sick b from 5 to 5;");
        fasts(x, 5);
        due("who is sick is hungry too", -2, x.plan(1, 0));
    }

    @Says("of equal ones the first row (a FAST behind all MEALS of a day; these by PEOPLE, DISHES, slow ahead of fast)")
    private static void planFirst() {
        String law = "share 9*(mouthful=20 and off=9 and not slowly);";
        TableTurns x = told(people(1) + dishes(1));
        due("a meal for nothing is ahead of a fast", 0, x.plan(1, 1));
        due("nobody is filled by it on the second day", 0, x.plan(3, 1));
        x = told(people(1) + dish("p", 1, 0, 1) + "store 9;");
        due("a fast is cheaper", 60, x.plan(3, 1));
        x = told(people(1));
        due("without dishes", 60, x.plan(1, 1));
        x = told(dishes(1));
        due("without people", 60, x.plan(1, 1));
        StringBuilder text = new StringBuilder(hungryPeople(5, 9)).append(person("f", "plain", 9, 9, 0));
        for (int i = 0; i < 4; i++) {
            text.append(dish(String.valueOf((char) ('p' + i)), 0, 0, 0));
        }
        x = told(text + dish("t", 20, 0, 20) + law + "store 20;");
        fasts(x, 5);
        due("the last of the last fast", 59, x.plan(1, 1));
        due("its cost", 20, x.plan(1, 0));
        x = told(hungryPeople(2, 9) + dish("p", 9, 0, 1) + dish("q", 9, 0, 1) + "store 9;share 9;");
        fasts(x, 5);
        due("the first person, the first dish, slowly", 0, x.plan(1, 1));
        x.eat(0, 1, true);
        due("a would be ill", 10, x.plan(1, 1));
        x = told(hungryPeople(2, 9) + dish("p", 9, 0, 2) + dish("q", 9, 0, 1) + "store 9;share 9;");
        fasts(x, 5);
        due("the cheaper dish", 2, x.plan(1, 1));
        x = told(hungryPeople(2, 9) + dish("p", 9, 0, 1) + "store 9;share 9*not slowly;");
        fasts(x, 5);
        due("fast", 1, x.plan(1, 1));
        x = told(hungryPeople(2, 9) + dishes(1) + "share 9;");
        commune(x, hungryPeople(2, 9) + dishes(1) + "share 9;");
        commune(x, hungryPeople(2, 9) + dishes(1) + "share 9*not slowly;");
        fasts(x, 5);
        due("fast, though slowly was as good by the law ahead", 1, x.plan(1, 1));
        x = told(hungryPeople(6, 9) + dishes(5) + "share 9;rest 7;");
        fasts(x, 5);
        for (int i = 0; i < 6; i++) {
            due("the first who would not be ill", 10 * i, x.plan(1, 1));
            x.eat(i, 0, true);
        }
        due("all would be ill", -2, x.plan(1, 1));
        x = told(hungryPeople(2, 9) + dish("p", 0, 0, 0) + dish("q", 9, 0, 5) + dish("r", 9, 0, 1) + "store 9;share mouthful;");
        fasts(x, 5);
        due("the cheaper of those that feed", 4, x.plan(1, 1));
        x = told(hungryPeople(2, 9) + dishes(2) + "share 9*(own or mouthful);");
        fasts(x, 5);
        due("the one that feeds both", 2, x.plan(1, 1));
    }

    @Says("the cost; the first one as PERSON * 10 + DISH * 2 + 1 if fast (a FAST: 60)")
    private static void planNumbers() {
        StringBuilder people = new StringBuilder();
        for (int i = 0; i < 6; i++) {
            people.append(person(String.valueOf((char) ('a' + i)), "plain", 9, i, 0));
        }
        for (int meal = 0; meal < 60; meal++) {
            String how = meal % 2 == 0 ? "slowly" : "not slowly";
            TableTurns x = told(people + dishes(5) + "share 9*(off=" + meal / 10 + " and mouthful=" + meal % 10 / 2 + " and " + how + ");");
            due("a fast can be", 0, x.plan(1, 0));
            fasts(x, 5);
            due("the one meal by which all are fed", meal, x.plan(1, 1));
            due("its cost", 0, x.plan(1, 0));
        }
        TableTurns x = told(people + dish("p", 1, 0, 1) + "store 5;");
        due("a fast", 60, x.plan(1, 1));
    }

    // ---- TABLES and LAST

    @Says("the one of its PEOPLE by whom its SHARES together are the most (seats as at the long table; ILL does not count)")
    private static void tablesByOne() {
        TableTurns x = told(people(3) + dish("p", 0, 0, 9) + "share 5-seats*5+own*0;sick b from 0 to 0;");
        due("each for himself, without a store", 10, x.tables(0, NONE));
        due("c is two seats from a", 1, x.tables(0, 2));
        x = told(people(3) + dishes(1) + "share seats*5;");
        due("the ends together: 5 and 10 by a", 15, x.tables(0, NONE));
        due("one table", 0, x.tables(0, 2));
        x.eat(0, 0, true);
        x.eat(2, 0, true);
        due("ill does not count", 15, x.tables(0, NONE));
        x = told(people(1) + dishes(1) + "share 4*slowly;");
        due("slowly", 4, x.tables(0, NONE));
    }

    @Says("the most SHARES of all together; of equal ones the first row (of each PERSON, by numbers, his table, these numbered as they "
        + "first come; sick ones have none)")
    private static void tablesRow() {
        TableTurns x = told(people(6) + dishes(1) + "share 5;");
        due("equal", 30, x.tables(0, NONE));
        for (int i = 0; i < 6; i++) {
            due("all at the first", 0, x.tables(0, i));
        }
        x = told(people(6) + dishes(1) + "share 5*own;");
        due("each by himself", 30, x.tables(0, NONE));
        for (int i = 0; i < 6; i++) {
            due("numbered as they come", i, x.tables(0, i));
        }
        x = told(people(6) + dishes(1) + "share 5*own;sick a from 0 to 0;sick d from 0 to 0;");
        int[] tables = {NONE, 0, 1, NONE, 2, 3};
        due("four", 20, x.tables(0, NONE));
        for (int i = 0; i < 6; i++) {
            due("table of " + i, tables[i], x.tables(0, i));
        }
        x = told(people(1) + dishes(1) + "sick a from 0 to 0;");
        due("nobody sits", 0, x.tables(0, NONE));
        due("none", NONE, x.tables(0, 0));
        due("nobody is there", 0, told(dishes(1)).tables(0, NONE));
        x = told(people(2) + dishes(1) + "share 0;");
        due("nothing", 0, x.tables(0, NONE));
        due("the first row", 0, x.tables(0, 1));
    }

    @Says("by numbers, round and round; at first from 0 on, then behind the one who ate last by this")
    private static void lastTurns() {
        // Each is fed by his own turn alone: 50 and 27 on each third day.
        TableTurns x = told(hungryPeople(3, 9) + dishes(1) + "share 27*own;rest 0;");
        due("round and round", 60, x.last(0));
        x = told(person("a", "greedy", 0, 0, 0) + plain("b", 0) + dish("p", 0, 0, 1) + "rest 0;store 2;");
        due("from 0 on: 2 by a", 1, x.last(0));
        x.eat(1, 0, true);
        due("a can't, so b", 1, x.last(0));
        x = told(person("a", "greedy", 0, 0, 0) + plain("b", 0) + dish("p", 0, 0, 1) + "rest 0;store 4;");
        x.eat(0, 0, true);
        due("from 0 on, whoever ate by hand", 1, x.last(0));
        x = told(plain("a", 0) + plain("b", 0) + person("c", "greedy", 0, 0, 0) + dish("p", 0, 0, 1) + "rest 0;store 3;sick a from 0 to 0;");
        due("b for a, then c by 2", 2, x.last(0));
    }

    @Says("by whom a MEAL can be and who is not ILL by it eats one DISH slowly")
    private static void lastCan() {
        TableTurns x = told(people(1) + dishes(1) + "rest 1;");
        due("ill on the next day", 1, x.last(0));
        x = told(people(2) + dishes(1) + "rest 1;");
        due("two by turns", 60, x.last(0));
        x = told(people(2) + dishes(1) + "rest 2;");
        due("two, then both are ill", 2, x.last(0));
        x.eat(0, 0, true);
        due("a ate already", 1, x.last(0));
        x = told(people(1) + dishes(1) + "rest 0;sick a from 7 to 7;");
        due("sick", 7, x.last(0));
        x = told(hungryPeople(1, 9) + dishes(1) + "rest 0;share 9*slowly;");
        due("slowly", 60, x.last(0));
    }

    @Says("how many DAYS there are ahead of the first one behind which somebody is HUNGRY, or on which there is no such PERSON, 60 at most")
    private static void lastDays() {
        for (int store = 0; store <= 62; store++) {
            TableTurns x = told(people(1) + dish("p", 0, 0, 1) + "rest 0;store " + store + ";");
            due("store " + store, Math.min(60, store), x.last(0));
        }
        due("nobody", 0, told(dishes(1)).last(0));
        TableTurns x = told(hungryPeople(1, 5) + dishes(1) + "rest 0;");
        due("just enough for ten", 10, x.last(0));
        fasts(x, 10);
        due("hungry behind this one", 0, x.last(0));
        x = told(hungryPeople(2, 9) + dishes(1) + "rest 0;share 9*own;sick b from 0 to 99;");
        due("somebody is hungry", 5, x.last(0));
    }

    // ---- TOLD, SETS, STOP

    @Says("TOLD: that one was FULL by so much (0 to 99) at a time")
    private static void toldFull() {
        TableTurns x = told(people(2) + dishes(1));
        due("0", true, x.tell(0, 0));
        due("99", true, x.tell(1, 99));
        due("of two", 2, x.count(9));
        x = told(people(2) + dishes(1));
        for (int full : new int[] {-1, 100, LEAST, MOST}) {
            due("full " + full, false, x.tell(0, full));
        }
        for (int person : new int[] {-1, 2, LEAST, MOST}) {
            due("person " + person, false, x.tell(person, 50));
        }
        due("of nobody", 0, x.count(9));
        due("all sets still", 4, x.sets(0, 0));
    }

    @Says("A later one of the same PERSON stands in place of the elder.")
    private static void toldLater() {
        TableTurns x = told(people(2) + dishes(1) + "share 5;");
        x.tell(0, 7);
        due("no set", 0, x.sets(0, 0));
        x.tell(0, 55);
        due("of one", 1, x.count(9));
        due("in its place", 2, x.sets(0, 0));
        due("a is in all", 1, x.sets(0, 1));
        x.tell(0, 100);
        due("what is not told stays out", 1, x.sets(0, 1));
        x.tell(0, 50);
        due("a is in none", 2, x.sets(0, 2));
    }

    @Says("who of all ate ABROAD a DISH (one for all) once, just now, the others not, if all are as FULL as now but for that")
    private static void setsNow() {
        TableTurns x = told(people(2) + dishes(2) + "share mouthful*5;sick b from 0 to 9;");
        x.tell(0, 55);
        x.tell(1, 50);
        due("one set by q", 1, x.sets(1, 0));
        due("it", 1, x.sets(1, 1));
        due("no set by p", 0, x.sets(0, 0));
        x.abroad(0, 1);
        due("as full as now", 1, x.sets(1, 0));
        due("nobody ate once more", 0, x.sets(1, 2));
        x.tell(1, 55);
        due("the sick one did", 2, x.sets(1, 1));
        x.tell(0, 65);
        due("twice does not count", 0, x.sets(1, 0));
        x = told(people(1) + dish("p", 0, 0, 0) + "share 60;");
        x.tell(0, 99);
        due("99 at most", 1, x.sets(0, 1));
        x.abroad(0, 0);
        due("full by 99 whether or not", 2, x.sets(0, 0));
        due("in all", 0, x.sets(0, 1));
        due("in some", 1, x.sets(0, 2));
    }

    @Says("whom to ask (of whom nothing is TOLD, of equal ones the first) so that the greatest number of SETS by which he is FULL alike is "
        + "the least, if it is less than all")
    private static void setsAsk() {
        TableTurns x = told(people(6) + dishes(1) + "share 5;");
        due("all of them", 64, x.sets(0, 0));
        for (int i = 0; i < 6; i++) {
            due("the first of whom nothing is told", i, x.sets(0, 3));
            x.tell(i, 50);
        }
        due("all is told", NONE, x.sets(0, 3));
        x = told(people(2) + dishes(1) + "share 0;");
        due("nobody parts them", NONE, x.sets(0, 3));
        due("all sets", 4, x.sets(0, 0));
        x = told(people(2) + dishes(1) + "share 60;");
        x.abroad(0, 0);
        due("a is full by 99 whether or not", 1, x.sets(0, 3));
        x.abroad(1, 0);
        due("b too", NONE, x.sets(0, 3));
    }

    @Says("STOP: the fewest PEOPLE (none who is sick today, not the one told) to be kept away")
    private static void stopFewest() {
        String six = people(6);
        TableTurns x = told(six + "cup a b;cup b f;cup a c;cup c d;cup d f;sick a from 0 to 0;");
        due("b, and c or d", 2 + 4, x.stop(5));
        due("a is sick", NONE, x.stop(0));
        due("b has a's cup", NONE, x.stop(1));
        due("e has none", 0, x.stop(4));
        x.fast();
        due("nobody is sick any more", 0, x.stop(5));
        due("a is not sick any more", 0, x.stop(0));
        x = told(six + "cup a b;cup a c;cup a d;cup b e;cup c e;cup d e;cup e f;sick a from 0 to 0;");
        due("one, not three", 16, x.stop(5));
        due("e: not himself", 2 + 4 + 8, x.stop(4));
        x = told(six + "cup a b;cup b c;cup c d;sick a from 0 to 0;sick c from 0 to 0;");
        due("none who is sick can be kept away", NONE, x.stop(3));
        due("nobody is there to be kept away", 0, told(people(1)).stop(0));
        x = told(people(2) + "sick a from 0 to 0;");
        due("no cup", 0, x.stop(1));
        x = told(people(2) + "cup a b;sick a from 1 to 1;");
        due("sick tomorrow", 0, x.stop(1));
    }

    @Says("by those who are left; of equal ones the least set")
    private static void stopLeast() {
        TableTurns x = told(people(6) + "cup f e;cup e d;cup d c;cup c b;cup b a;sick f from 0 to 0;");
        due("b, c, d or e: b", 2, x.stop(0));
        x = told(people(6) + "cup a b;cup b c;cup c d;cup d e;cup e f;sick a from 0 to 0;");
        due("b, c, d or e: b", 2, x.stop(5));
        x = told(people(6) + "cup a e;cup e f;cup a b;cup b c;cup c f;sick a from 0 to 0;");
        due("e, and b or c", 16 + 2, x.stop(5));
        x = told(people(6) + "cup a e;cup a d;cup e c;cup d b;cup c f;cup b f;sick a from 0 to 0;");
        due("b and c: 6; d and e: 24; c and d: 12", 6, x.stop(5));
    }

    // ---- POWER, COUPLES, GREED

    @Says("POWER of a PERSON by a quota (0 to 999): sets of the others whose votes together are less than it, and with his no less")
    private static void quota() {
        StringBuilder six = new StringBuilder();
        for (int i = 0; i < 6; i++) {
            six.append(person(String.valueOf((char) ('a' + i)), "plain", 0, 0, 99));
        }
        TableTurns x = told(six.toString());
        due("0", 0, x.power(0, 0));
        due("1: nobody of the others", 1, x.power(0, 1));
        due("99", 1, x.power(0, 99));
        due("100: one of the others", 5, x.power(0, 100));
        due("594: all of the others", 1, x.power(5, 594));
        due("595", 0, x.power(5, 595));
        due("999", 0, x.power(5, 999));
        for (int quota : new int[] {-1, 1000, LEAST, MOST}) {
            due("quota " + quota, NONE, x.power(0, quota));
        }
        for (int who : new int[] {-1, 6, LEAST, MOST}) {
            due("person " + who, NONE, x.power(who, 5));
        }
        x = told(person("a", "plain", 0, 0, 0) + person("b", "plain", 0, 0, 3));
        due("without votes", 0, x.power(0, 3));
        due("less by one", 2, x.power(1, 3));
        x = told(person("a", "plain", 0, 0, 2) + person("b", "plain", 0, 0, 3) + "sick b from 0 to 9;");
        due("the sick vote", 1, x.power(1, 5));
    }

    @Says("COUPLES: of all ways to pair who SITS today (one alone if they are odd, who counts 0)")
    private static void couplesOdd() {
        TableTurns x = told(person("a", "plain", 0, 0, 0) + person("b", "plain", 0, 9, 0) + person("c", "plain", 0, 8, 0)
            + "sick c from 1 to 1;");
        due("b and c", 1, x.couples(NONE));
        due("a is alone", NONE, x.couples(0));
        due("c's", 1, x.couples(2));
        x.fast();
        due("two must", 9, x.couples(NONE));
        due("a's", 1, x.couples(0));
        due("c does not sit", NONE, x.couples(2));
        due("one alone", 0, told(people(1)).couples(NONE));
        due("one alone", NONE, told(people(1)).couples(0));
        due("nobody", 0, told("").couples(NONE));
        x = told(people(2) + "sick a from 0 to 0;sick b from 0 to 0;");
        due("nobody sits", 0, x.couples(NONE));
        due("nobody's", NONE, x.couples(1));
        StringBuilder six = new StringBuilder();
        for (int i = 0; i < 6; i++) {
            six.append(person(String.valueOf((char) ('a' + i)), "plain", 0, i < 3 ? 0 : 9, 0));
        }
        due("three of 0 and three of 9", 9, told(six.toString()).couples(NONE));
    }

    @Says("of equal ones the first row (of each, by numbers, his other one; none behind all)")
    private static void couplesRow() {
        TableTurns x = told(people(6));
        int[] row = {1, 0, 3, 2, 5, 4};
        for (int i = 0; i < 6; i++) {
            due("six", row[i], x.couples(i));
        }
        x = told(people(5));
        int[] five = {1, 0, 3, 2, NONE};
        for (int i = 0; i < 5; i++) {
            due("five", five[i], x.couples(i));
        }
        x = told(people(6) + "sick b from 0 to 0;sick c from 0 to 0;");
        int[] four = {3, NONE, NONE, 0, 5, 4};
        for (int i = 0; i < 6; i++) {
            due("four", four[i], x.couples(i));
        }
    }

    @Says("each eats 1 to 5 bites of so many (0 to 20) there are: each gets 3 for each of his own, less so much (0 to 9) for each that both "
        + "together eat beyond what there is")
    private static void greed() {
        TableTurns x = new TableTurns();
        for (int bites = 0; bites <= 20; bites++) {
            for (int loss = 0; loss <= 2; loss++) {
                due("by loss " + loss + " all one can", 55, rest(x, bites, loss, 0));
                due("one rest", 1, rest(x, bites, loss, NONE));
            }
        }
        due("1 at least", 11, rest(x, 0, 9, 0));
        due("1 at least", 1, rest(x, 0, 9, NONE));
        due("5 at most", 55, rest(x, 20, 9, 0));
        due("10 for both", 1, rest(x, 10, 9, NONE));
        due("9 for both", 2, rest(x, 9, 9, NONE));
        due("9 for both", 45, rest(x, 9, 9, 0));
        due("9 for both", 54, rest(x, 9, 9, 1));
        due("2 for both", 11, rest(x, 2, 4, 0));
        due("3 for both", 12, rest(x, 3, 4, 0));
        due("3 for both", 21, rest(x, 3, 4, 1));
        due("all is equal by 3", 25, rest(x, 0, 3, NONE));
        due("the least first", 11, rest(x, 0, 3, 0));
        due("then", 12, rest(x, 0, 3, 1));
        due("the last", 55, rest(x, 0, 3, 24));
    }

    @Says("RESTS: by which neither would get more by another number of its own")
    private static void restsOfAll() {
        TableTurns x = new TableTurns();
        for (int bites = 0; bites <= 20; bites++) {
            for (int loss = 0; loss <= 9; loss++) {
                int found = 0;
                for (int pair = 11; pair <= 55; pair++) {
                    if (isRest(pair / 10, pair % 10, bites, loss)) {
                        due("rest " + found + " of " + bites + ", " + loss, pair, rest(x, bites, loss, found));
                        found++;
                    }
                }
                due("rests of " + bites + ", " + loss, found, rest(x, bites, loss, NONE));
                due("one behind the last", THROWN, rest(x, bites, loss, found));
            }
        }
    }

    private static boolean isRest(int one, int other, int bites, int loss) {
        boolean rests = other >= 1 && other <= 5;
        for (int i = 1; i <= 5; i++) {
            rests &= 3 * i - loss * Math.max(0, i + other - bites) <= 3 * one - loss * Math.max(0, one + other - bites);
            rests &= 3 * i - loss * Math.max(0, i + one - bites) <= 3 * other - loss * Math.max(0, one + other - bites);
        }
        return rests;
    }

    // ---- YEARS and MARKS

    /** The store of 999 behind so many days of frosts alone. */
    private static int frosts(long seed, int days) {
        long g = seed;
        int store = 999;
        for (int day = 0; day < days; day++) {
            g = (g * 1103515245L + 12345L) % 2147483648L;
            store -= g / 65536 % 10 == 0 ? store / 2 : 0;
        }
        return store;
    }

    @Says("A DRAW below m: g becomes (g * 1103515245 + 12345) modulo 2147483648 (g is the SEED at first); it is g / 65536, cut, modulo m.")
    private static void draws() {
        TableTurns x = told("store 999;");
        for (int seed = 0; seed <= 9999; seed += 303) {
            due("frosts by seed " + seed, frosts(seed, 100), x.years(seed, 100, 2));
        }
        due("frosts by seed 9999", frosts(9999, 1), x.years(9999, 1, 2));
    }

    @Says("YEARS by a SEED of so many days (1 to 100), from now on (all is as ahead then)")
    private static void yearsDays() {
        TableTurns x = told(hungryPeople(2, 9) + dish("p", 0, 0, 1) + "store 40;rest 7;");
        x.eat(0, 0, true);
        fasts(x, 2);
        x.tell(0, 5);
        weeks(x, "none;");
        String before = all(x);
        for (int days : new int[] {1, 2, 99, 100}) {
            for (int what = 0; what <= 2; what++) {
                due("days " + days, true, x.years(7, days, what) >= 0);
            }
        }
        stays("years", before, x);
        for (int days : new int[] {0, -1, 101, LEAST, MOST}) {
            due("days " + days, NONE, x.years(7, days, 0));
        }
        x = told(hungryPeople(1, 5));
        due("ten days", 0, x.years(3, 10, 0));
        due("eleven", 1, x.years(3, 11, 0));
        due("a hundred", 90, x.years(3, 100, 0));
        fasts(x, 9);
        due("one day from now on", 0, x.years(3, 1, 0));
        due("two", 1, x.years(3, 2, 0));
        x.fast();
        x.fast();
        due("hungry ahead does not count", 1, x.years(3, 1, 0));
    }

    @Says("a DRAW below 10: 0 a frost: the store loses half, cut")
    private static void frost() {
        // By seed 0 the first draw is 0; by seed 9 it is not.
        for (int store : new int[] {0, 1, 2, 3, 14, 15, 998, 999}) {
            TableTurns x = told("store " + store + ";");
            due("a frost of " + store, store - store / 2, x.years(0, 1, 2));
            due("no frost of " + store, store, x.years(9, 1, 2));
        }
    }

    @Says("then, if there are PEOPLE and DISHES, a DRAW below them each, then one below 2 (0 slowly): a MEAL, if it can be; else (or without "
        + "these) a FAST")
    private static void drawnMeals() {
        due("without dishes one draw a day", frosts(77, 100), told(people(1) + "store 999;").years(77, 100, 2));
        due("without people one draw a day", frosts(77, 100), told(dish("p", 0, 0, 1) + "store 999;").years(77, 100, 2));
        TableTurns x = told(people(1) + dish("p", 0, 0, 1) + "store 999;sick a from 0 to 99;");
        due("a meal that can't be is drawn: four draws a day", frostsByFour(77, 100), x.years(77, 100, 2));
        due("nobody is ill by it", 0, x.years(77, 100, 1));
        x = told(people(1) + dish("p", 0, 0, 1) + "store 1;rest 7;");
        due("one meal, then it can't be", 0, x.years(9, 5, 2));
        due("nobody is ill by it", 0, x.years(9, 5, 1));
        x = told(hungryPeople(1, 9) + dish("p", 0, 0, 1));
        due("fasts", 5, x.years(9, 10, 0));
        x = told(hungryPeople(1, 9) + dishes(1) + "share 9*slowly;");
        fasts(x, 5);
        for (int seed = 0; seed < 50; seed++) {
            due("hungry unless slowly by seed " + seed, fourthDraw(seed) % 2, x.years(seed, 1, 0));
        }
    }

    private static long fourthDraw(long seed) {
        long g = seed;
        for (int draw = 0; draw < 4; draw++) {
            g = (g * 1103515245L + 12345L) % 2147483648L;
        }
        return g / 65536;
    }

    private static int frostsByFour(long seed, int days) {
        long g = seed;
        int store = 999;
        for (int draw = 0; draw < 4 * days; draw++) {
            g = (g * 1103515245L + 12345L) % 2147483648L;
            store -= draw % 4 == 0 && g / 65536 % 10 == 0 ? store / 2 : 0;
        }
        return store;
    }

    @Says("how often somebody was HUNGRY, PERSON by PERSON; how many were ILL; what is left in the store")
    private static void yearsOf() {
        TableTurns x = told(hungryPeople(6, 9));
        due("six on each day from the sixth on", 6 * 95, x.years(1, 100, 0));
        x = told(people(1) + dishes(1) + "rest 7;");
        due("ill but on the first day", 99, x.years(1, 100, 1));
        x.eat(0, 0, true);
        due("on all", 100, x.years(1, 100, 1));
        x.eat(0, 0, true);
        due("ill ahead does not count", 1, x.years(1, 1, 1));
        x = told(people(1) + dish("p", 0, 0, 2) + "rest 7;store 5;");
        due("the ill pay", 1, x.years(9, 2, 2));
    }

    @Says("MARKS 0 to 3 hold the day, the store, how FULL all are, who ate when, the WEEKS, what is TOLD")
    private static void marks() {
        TableTurns x = told(people(2) + dish("p", 0, 0, 1) + "store 9;share 5;");
        for (int mark = 0; mark < 4; mark++) {
            due("nothing is on it", false, x.mark(mark, true));
            x.eat(mark % 2, 0, true);
            x.tell(mark % 2, 50 + mark);
            weeks(x, "none;".repeat(mark));
            due("laid", true, x.mark(mark, false));
        }
        int[] full = {110, 120, 120, 120};
        for (int mark = 3; mark >= 0; mark--) {
            x.fast();
            due("gone back to", true, x.mark(mark, true));
            due("the day", mark + 1, x.count(3));
            due("the store", 8 - mark, x.count(4));
            due("full", full[mark], x.count(12));
            due("who ate last", mark, x.person(mark % 2, 6));
            due("who ate ahead", mark - 1, x.person(1 - mark % 2, 6));
            due("the weeks", mark, x.count(8));
            due("told", Math.min(2, mark + 1), x.count(9));
        }
        x = told(people(2) + dish("p", 0, 0, 1) + dish("q", 0, 0, 3) + "store 20;sick b from 0 to 0;");
        weeks(x, "eat a q slow;eat b p fast;none;");
        x.mark(0, false);
        weeks(x, "eat b p slow;abroad a p;none;");
        due("other weeks", 0, x.judged(0));
        x.mark(1, false);
        x.mark(0, true);
        due("what the lines were", 16, x.judged(3));
        due("who ate", NONE, x.judged(0));
        x.mark(1, true);
        due("what the others were", 20, x.judged(3));
        due("who ate", 0, x.judged(0));
        for (int mark : new int[] {-1, 4, LEAST, MOST}) {
            due("no mark " + mark, false, x.mark(mark, false));
            due("no mark " + mark, false, x.mark(mark, true));
        }
    }

    @Says("(nothing can be undone when one is gone back to)")
    private static void marksAndUndo() {
        TableTurns x = told(people(1) + dishes(1));
        fasts(x, 3);
        x.mark(1, false);
        due("laying one leaves it", 3, x.count(10));
        fasts(x, 20);
        due("none such leaves it", false, x.mark(2, true));
        due("sixteen", 16, x.count(10));
        due("back", true, x.mark(1, true));
        due("nothing", 0, x.count(10));
        due("nothing can be undone", false, x.undo());
        due("the day stays", 3, x.count(3));
        x.fast();
        due("one can", true, x.undo());
        due("to the mark's day", 3, x.count(3));
        due("not further", false, x.undo());
        x.fast();
        due("nor on it again", true, x.mark(1, true));
        due("nothing", false, x.undo());
    }

    // ---- the promises: what they answer for others

    /** Two people, two dishes; b is sick on days 1 and 2. */
    private static TableTurns two() {
        return told(hungryPeople(2, 3) + dish("p", 9, 0, 2) + dish("q", 5, 1, 9) + "cup a b;store 8;sick b from 1 to 2;");
    }

    @Says("`TableTurns()`: Nothing.")
    private static void promise01() {
        due("NONE", -1, TableTurns.NONE);
        TableTurns x = new TableTurns();
        TableTurns y = told(people(3) + "store 5;");
        due("objects share nothing", 0, x.count(0));
        due("objects share nothing", 5, y.count(4));
    }

    @Says("Up to 24 signs come behind the TAPE: the bytes of a, b, c, of each the highest first; others than 10 and 32 .. 126, and what is "
        + "beyond 1,000, are left out: how many there are.")
    private static void promise02() {
        TableTurns x = new TableTurns();
        due("none", 0, x.feed(0, 0, 0));
        due("none", 0, x.feed(-1L, -1L, -1L));
        due("a, b, c", 24, x.feed(eight("store 12", 0), eight("3;rest 1", 0), eight(";share 1", 0)));
        due("behind", 25, x.feed(0, eight(";", 0), 0));
        due("how many there are", 25, x.count(11));
        due("in their order", 0, x.commune());
        due("the store", 123, x.count(4));
        due("what is left out between does not part", 6, x.feed(0x73_00_74_01_6F_7F_72_80L, 0x65_FF_20_09_0D_1F_00_00L, 0));
        due("store5", 8, x.feed(0, 0x35_00L, 0x3BL));
        due("it is read", 0, x.commune());
        due("5", 5, x.count(4));
        for (int i = 1; i <= 50; i++) {
            due("24 at a time", Math.min(1000, 24 * i), x.feed(eight("        ", 0), eight("        ", 0), eight("        ", 0)));
        }
    }

    @Says("The TAPE is read as a COMMUNE: 0, or its FAULT (all stays then).")
    private static void promise03() {
        TableTurns x = two();
        x.eat(0, 0, true);
        x.tell(1, 40);
        weeks(x, "none;");
        x.mark(1, false);
        String before = all(x);
        String[] faulty = {"?", "store 5;?", people(3) + "cup a a;", "store 1000;", dishes(6), people(1) + "share (1;", "sick a from"};
        for (String text : faulty) {
            due("a fault in " + text, true, commune(x, text) > 0);
            stays(text, before, x);
        }
        due("the law stays: 56 and 9", 65, x.abroad(0, 0));
        due("the mark stays", true, x.mark(1, true));
        due("no fault", 0, commune(x, "store 5;"));
        due("another one", 0, x.count(0));
    }

    @Says("The TAPE is read as WEEKS, likewise.")
    private static void promise04() {
        TableTurns x = two();
        weeks(x, "eat a p slow;none;");
        x.fast();
        String before = all(x);
        for (String text : new String[] {"?", "none;?", "eat a p;", "eat c p slow;", "eat a c slow;",
            "abroad c p;", "abroad a c;", "eat a p old;", "none;".repeat(41), "eat a p slow", "store 5;"}) {
            due("a fault in " + text, true, weeks(x, text) > 0);
            stays(text, before, x);
            due("the lines stay", 6, x.judged(3));
        }
        due("no fault", 0, weeks(x, "none;"));
        due("one line", 1, x.count(8));
        due("the day stays", 1, x.count(3));
        due("what can be undone stays", 1, x.count(10));
    }

    @Says("6: the day of his last MEAL (NONE: none), 7: how often he was HUNGRY; NONE: others.")
    private static void promise05() {
        TableTurns x = two();
        for (int who : NO_PEOPLE) {
            for (int what = 0; what <= 7; what++) {
                due("person " + who, NONE, x.person(who, what));
            }
        }
        for (int what : new int[] {-1, 8, LEAST, MOST}) {
            due("what " + what, NONE, x.person(0, what));
        }
        due("no meal", NONE, x.person(1, 6));
        x.eat(1, 0, true);
        due("a meal on day 0", 0, x.person(1, 6));
        fasts(x, 2);
        x.eat(1, 0, true);
        due("the last meal", 3, x.person(1, 6));
        due("not of another one", NONE, x.person(0, 6));
    }

    @Says("Of a DISH, what 0: bites, 1: salt, 2: cost; NONE: others.")
    private static void promise06() {
        TableTurns x = two();
        for (int dish : NO_DISHES) {
            for (int what = 0; what <= 2; what++) {
                due("dish " + dish, NONE, x.dish(dish, what));
            }
        }
        for (int what : new int[] {-1, 3, LEAST, MOST}) {
            due("what " + what, NONE, x.dish(0, what));
        }
        due("bites", 5, x.dish(1, 0));
        due("salt", 1, x.dish(1, 1));
        due("cost", 9, x.dish(1, 2));
    }

    @Says("would fill one by; NONE: others, it can't be.")
    private static void promise07() {
        TableTurns x = two();
        for (int who : NO_PEOPLE) {
            due("eater " + who, NONE, x.would(who, 0, true, 0));
            due("person " + who, NONE, x.would(0, 0, true, who));
        }
        for (int dish : NO_DISHES) {
            due("dish " + dish, NONE, x.would(0, dish, true, 0));
        }
        due("too dear", NONE, x.would(0, 1, true, 0));
        x.fast();
        due("sick", NONE, x.would(1, 0, false, 1));
        due("of a sick one", 0, x.would(0, 0, false, 1));
    }

    @Says("A MEAL: 1, 0 if he is ILL; NONE: others, it can't be.")
    private static void promise08() {
        TableTurns x = two();
        x.fast();
        String before = all(x);
        for (int who : NO_PEOPLE) {
            due("eater " + who, NONE, x.eat(who, 0, true));
        }
        for (int dish : NO_DISHES) {
            due("dish " + dish, NONE, x.eat(0, dish, false));
        }
        due("too dear", NONE, x.eat(0, 1, true));
        due("sick", NONE, x.eat(1, 0, true));
        stays("what can't be", before, x);
        due("a meal", 1, x.eat(0, 0, true));
        due("ill", 0, x.eat(0, 0, true));
    }

    @Says("ABROAD: how FULL he is then; NONE: others.")
    private static void promise09() {
        TableTurns x = two();
        x.fast();
        String before = all(x);
        for (int who : NO_PEOPLE) {
            due("person " + who, NONE, x.abroad(who, 0));
        }
        for (int dish : NO_DISHES) {
            due("dish " + dish, NONE, x.abroad(0, dish));
        }
        stays("what can't be", before, x);
        due("47 and 4", 51, x.abroad(0, 1));
        due("a sick one", 51, x.abroad(1, 1));
    }

    @Says("A FAST: the day then.")
    private static void promise10() {
        TableTurns x = new TableTurns();
        for (int day = 1; day <= 500; day++) {
            due("of nobody", day, x.fast());
        }
        x = told(people(1) + "sick a from 0 to 99;");
        due("of the sick", 1, x.fast());
    }

    @Says("UNDO: true; false: nothing can be.")
    private static void promise11() {
        TableTurns x = two();
        due("nothing", false, x.undo());
        x.abroad(0, 0);
        due("abroad", true, x.undo());
        due("full", 50, x.person(0, 4));
        due("nothing more", false, x.undo());
        x.tell(0, 5);
        x.mark(0, false);
        weeks(x, "none;");
        x.feed(0x20L, 0, 0);
        due("nothing by other calls", false, x.undo());
        due("what is told stays", 1, x.count(9));
        due("the tape stays", 1, x.count(11));
    }

    @Says("JUDGED, what 0, 1, 2: lines (NONE: none; 1 HUNGRY, 2 ILL), 3: the store; -2: others.")
    private static void promise12() {
        TableTurns x = two();
        for (int what : new int[] {-1, 4, LEAST, MOST}) {
            due("what " + what, -2, x.judged(what));
        }
        weeks(x, "none;");
        for (int what = 0; what <= 2; what++) {
            due("none", NONE, x.judged(what));
        }
        due("the store", 8, x.judged(3));
    }

    @Says("PLAN, what 0: cost, 1: the first one (NONE: no days); -2: others, none.")
    private static void promise13() {
        TableTurns x = two();
        for (int what : new int[] {-1, 2, LEAST, MOST}) {
            due("what " + what, -2, x.plan(1, what));
            due("what " + what + " of no days", -2, x.plan(0, what));
        }
        due("no days", NONE, x.plan(0, 1));
        TableTurns y = told(hungryPeople(1, 9));
        fasts(y, 5);
        due("none", -2, y.plan(1, 0));
        due("none", -2, y.plan(1, 1));
        due("none of three", -2, y.plan(3, 1));
        due("no days can be", 0, y.plan(0, 0));
    }

    @Says("TABLES by a DISH, person NONE: SHARES; else his table (NONE: he does not SIT); -2: others.")
    private static void promise14() {
        TableTurns x = two();
        for (int who : new int[] {-2, 2, 6, LEAST, MOST}) {
            due("person " + who, -2, x.tables(0, who));
        }
        for (int dish : NO_DISHES) {
            due("dish " + dish, -2, x.tables(dish, NONE));
            due("dish " + dish, -2, x.tables(dish, 0));
        }
        x.fast();
        due("b does not sit", NONE, x.tables(0, 1));
        due("a does", 0, x.tables(0, 0));
        due("shares", 9, x.tables(0, NONE));
    }

    @Says("LAST; NONE: others.")
    private static void promise15() {
        TableTurns x = two();
        for (int dish : NO_DISHES) {
            due("dish " + dish, NONE, x.last(dish));
        }
        due("too dear from the first", 0, x.last(1));
    }

    @Says("TOLD: true; false: others.")
    private static void promise16() {
        TableTurns x = two();
        for (int who : NO_PEOPLE) {
            due("person " + who, false, x.tell(who, 50));
        }
        for (int full : new int[] {-1, 100, LEAST, MOST}) {
            due("full " + full, false, x.tell(0, full));
        }
        due("of nobody", 0, x.count(9));
        x.fast();
        due("of a sick one", true, x.tell(1, 50));
        due("of one", 1, x.count(9));
    }

    @Says("3: whom to ask (NONE: nobody parts them); NONE: others, no set (but 0).")
    private static void promise17() {
        TableTurns x = two();
        for (int dish : NO_DISHES) {
            for (int what = 0; what <= 3; what++) {
                due("dish " + dish, NONE, x.sets(dish, what));
            }
        }
        for (int what : new int[] {-1, 4, LEAST, MOST}) {
            due("what " + what, NONE, x.sets(0, what));
        }
        x.tell(0, 1);
        due("no set", 0, x.sets(0, 0));
        for (int what = 1; what <= 3; what++) {
            due("of no set " + what, NONE, x.sets(0, what));
        }
        TableTurns y = told(dishes(1));
        due("the empty set of nobody", 1, y.sets(0, 0));
        due("in all", 0, y.sets(0, 1));
        due("in some", 0, y.sets(0, 2));
        due("nobody to ask", NONE, y.sets(0, 3));
    }

    @Says("STOP, as bits; NONE: others, he is sick today, it can't be stopped.")
    private static void promise18() {
        TableTurns x = two();
        for (int who : NO_PEOPLE) {
            due("person " + who, NONE, x.stop(who));
        }
        due("nobody is sick", 0, x.stop(0));
        x.fast();
        due("he is sick", NONE, x.stop(1));
        due("it can't be stopped", NONE, x.stop(0));
        fasts(x, 2);
        due("nobody is sick any more", 0, x.stop(1));
    }

    @Says("POWER; NONE: others.")
    private static void promise19() {
        TableTurns x = two();
        for (int who : NO_PEOPLE) {
            due("person " + who, NONE, x.power(who, 0));
        }
        for (int quota : new int[] {-1, 1000, LEAST, MOST}) {
            due("quota " + quota, NONE, x.power(0, quota));
        }
        due("by 0", 0, x.power(0, 0));
        due("by 999", 0, x.power(1, 999));
    }

    @Says("COUPLES, person NONE: the sum; else whose (NONE: alone, he does not SIT); -2: others.")
    private static void promise20() {
        TableTurns x = two();
        for (int who : new int[] {-2, 2, 6, LEAST, MOST}) {
            due("person " + who, -2, x.couples(who));
        }
        due("b's", 0, x.couples(1));
        x.fast();
        due("a is alone", NONE, x.couples(0));
        due("b does not sit", NONE, x.couples(1));
        due("the sum", 0, x.couples(NONE));
    }

    @Says("RESTS of GREED, what NONE: how many; i: the i-th as 10 * the first one's + the other one's (the least first). "
        + "NoSuchElementException: others, none such.")
    private static void promise21() {
        TableTurns x = two();
        int[][] others = {{-1, 0, -1}, {21, 0, -1}, {LEAST, 0, -1}, {MOST, 0, -1}, {0, -1, -1}, {0, 10, -1}, {0, LEAST, -1}, {0, MOST, -1},
            {0, 0, -2}, {0, 0, 1}, {0, 0, LEAST}, {0, 0, MOST}, {0, 3, 25}, {-1, 0, 0}, {21, 0, 0}, {0, 10, 0}};
        for (int[] call : others) {
            due("rests " + Arrays.toString(call), THROWN, rest(x, call[0], call[1], call[2]));
        }
        due("the 24th", 55, rest(x, 0, 3, 24));
        due("bites 0, loss 0", 1, rest(x, 0, 0, NONE));
        due("bites 20, loss 9", 1, rest(x, 20, 9, NONE));
        due("12 ahead of 21", 12, rest(x, 3, 9, 0));
    }

    @Says("YEARS by a SEED (0 to 9999), what 0: HUNGRY, 1: ILL, 2: the store; NONE: others.")
    private static void promise22() {
        TableTurns x = told("store 999;");
        for (int seed : new int[] {-1, 10000, LEAST, MOST}) {
            due("seed " + seed, NONE, x.years(seed, 1, 2));
        }
        for (int days : new int[] {0, 101, LEAST, MOST}) {
            due("days " + days, NONE, x.years(0, days, 2));
        }
        for (int what : new int[] {-1, 3, LEAST, MOST}) {
            due("what " + what, NONE, x.years(0, 1, what));
        }
        due("the least seed", frosts(0, 1), x.years(0, 1, 2));
        due("the greatest", frosts(9999, 100), x.years(9999, 100, 2));
    }

    @Says("A MARK is laid (back: gone back to): true; false: none such, nothing is on it (back).")
    private static void promise23() {
        TableTurns x = two();
        for (int mark = 0; mark <= 3; mark++) {
            due("nothing is on it", false, x.mark(mark, true));
        }
        x.fast();
        due("laid", true, x.mark(0, false));
        due("nothing is on the next", false, x.mark(1, true));
        x.fast();
        due("laid over", true, x.mark(0, false));
        x.fast();
        String before = all(x);
        for (int mark : new int[] {-1, 1, 2, 3, 4, LEAST, MOST}) {
            due("back to " + mark, false, x.mark(mark, true));
        }
        stays("none such", before, x);
        due("back", true, x.mark(0, true));
        due("the later day", 2, x.count(3));
        x.fast();
        due("back again", true, x.mark(0, true));
        due("the same day", 2, x.count(3));
    }

    @Says("12: FULL of all together. NONE for another what.")
    private static void promise24() {
        TableTurns x = two();
        for (int what : new int[] {-1, 13, LEAST, MOST}) {
            due("what " + what, NONE, x.count(what));
        }
        due("full", 100, x.count(12));
        x.eat(0, 0, true);
        x.eat(0, 0, true);
        weeks(x, "none;none;");
        x.tell(1, 50);
        x.feed(0x20L, 0, 0);
        int[] counts = {2, 2, 1, 2, 4, 1, 0, 1, 2, 1, 2, 1, 50 + 9 - 6 + 50 + 8 - 6};
        for (int what = 0; what < counts.length; what++) {
            due("count " + what, counts[what], x.count(what));
        }
    }

    @Says("Nothing is promised beyond the answers and state changes described above")
    private static void askingChangesNothing() {
        TableTurns x = two();
        x.eat(0, 0, true);
        x.abroad(1, 0);
        x.tell(1, 50);
        weeks(x, "eat b p slow;eat b p slow;none;");
        x.feed(0x20L, 0, 0);
        String before = all(x);
        for (int i = -1; i <= 3; i++) {
            x.would(0, i, true, 1);
            x.judged(i);
            x.plan(3, i);
            x.tables(0, i);
            x.last(i);
            x.sets(0, i);
            x.stop(i);
            x.power(i, 5);
            x.couples(i);
            rest(x, 4, 9, i);
            x.years(5, 50, i);
        }
        stays("asking", before, x);
        due("what b ate abroad is undone", true, x.undo());
        due("b was filled by it", 50 + 8 - 3, x.person(1, 4));
    }
}
