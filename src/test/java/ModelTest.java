import java.util.ArrayDeque;
import java.util.ArrayList;
import java.util.Arrays;
import java.util.Deque;
import java.util.HashMap;
import java.util.List;
import java.util.Map;
import java.util.NoSuchElementException;
import java.util.Random;
import java.util.Set;
import java.util.TreeSet;

/** Random runs of calls, held against a second, slow writing of the document, which tries all there is to try. */
public final class ModelTest {
    private static final int RUNS = 1500;
    private static final int CALLS = 120;

    public static void main(String[] args) {
        int runs = args.length > 0 ? Integer.parseInt(args[0]) : RUNS;
        int first = args.length > 1 ? Integer.parseInt(args[1]) : 0;
        int wrong = 0;
        for (int seed = first; seed < first + runs && wrong < 10; seed++) {
            wrong += new Run(seed).wrong();
        }
        System.out.println(runs + " runs, " + wrong + " went wrong");
        if (wrong != 0) {
            System.exit(1);
        }
    }

    /** One run: the same calls to the class and to the model. */
    private static final class Run {
        private final int seed;
        private final Random random;
        private final TableTurns real = new TableTurns();
        private final Model model = new Model();
        private final StringBuilder told = new StringBuilder();

        Run(int seed) {
            this.seed = seed;
            this.random = new Random(seed);
        }

        int wrong() {
            for (int i = 0; i < CALLS; i++) {
                String fault = i == 0 || random.nextInt(40) == 0 ? textCall(true) : call();
                if (fault == null && random.nextInt(8) == 0) {
                    fault = allCounts();
                }
                if (fault != null) {
                    System.out.println("seed " + seed + ": " + fault + "\n" + told);
                    return 1;
                }
            }
            return 0;
        }

        private String same(String call, Object got, Object want) {
            told.append(call).append(" -> ").append(got).append('\n');
            return got.equals(want) ? null : call + " answered " + got + ", the model says " + want;
        }

        private String allCounts() {
            for (int what = -1; what <= 13; what++) {
                String fault = same("count " + what, real.count(what), model.count(what));
                if (fault != null) {
                    return fault;
                }
            }
            for (int person = 0; person < 6; person++) {
                for (int what = 4; what < 8; what++) {
                    String fault = same("person " + person + " " + what, real.person(person, what), model.person(person, what));
                    if (fault != null) {
                        return fault;
                    }
                }
            }
            return null;
        }

        private String textCall(boolean commune) {
            String text = commune ? communeText() : weeksText();
            if (random.nextInt(3) == 0) {
                text = spoiled(text);
            }
            told.append("TEXT ").append(text).append('\n');
            for (int i = 0; i < text.length(); i += 24) {
                long a = eight(text, i);
                long b = eight(text, i + 8);
                long c = eight(text, i + 16);
                String fault = same("feed", real.feed(a, b, c), model.feed(a, b, c));
                if (fault != null) {
                    return fault;
                }
            }
            return commune ? same("commune", real.commune(), model.commune()) : same("weeks", real.weeks(), model.weeks());
        }

        private static long eight(String text, int from) {
            long bytes = 0;
            for (int i = from; i < from + 8; i++) {
                bytes = bytes << 8 | (i < text.length() ? text.charAt(i) : 0);
            }
            return bytes;
        }

        private int below(int n) {
            return random.nextInt(n);
        }

        private String pick(String... words) {
            return words[below(words.length)];
        }

        private String spoiled(String text) {
            StringBuilder out = new StringBuilder(text);
            int changes = 1 + below(2);
            for (int i = 0; i < changes && out.length() > 0; i++) {
                int at = below(out.length());
                switch (below(6)) {
                    case 0: out.deleteCharAt(at); break;
                    case 1: out.insert(at, (char) (32 + below(95))); break;
                    case 2: out.setLength(at); break;
                    case 3: out.setCharAt(at, pick(";", " ", "(", ")", "9", "a", "<", "=").charAt(0)); break;
                    case 4: out.insert(at, pick(" not ", " ( ", " person ", "eat ", " 5 ", "=", "1000", "\n")); break;
                    default: out.append(text, Math.min(at, text.length()), text.length()); break;
                }
            }
            return out.toString();
        }

        private String communeText() {
            StringBuilder out = new StringBuilder();
            int people = below(12) == 0 ? below(8) : 1 + below(6);
            int dishes = below(12) == 0 ? below(7) : 1 + below(4);
            int hunger = 1 + below(10);
            for (int i = 0; i < people; i++) {
                out.append("person p").append((char) ('a' + i)).append(' ').append(pick("plain", "greedy", "loved", "old"))
                    .append(" hungry ").append(below(hunger)).append(" taste ").append(below(10)).append(" votes ").append(below(9)).append(';');
            }
            int dear = 1 + below(21);
            for (int i = 0; i < dishes; i++) {
                out.append("dish d").append((char) ('a' + i)).append(" bites ").append(below(21)).append(" salt ").append(below(10))
                    .append(" cost ").append(below(dear)).append(';');
            }
            Set<String> pairs = new TreeSet<>();
            for (int i = 0; i < below(12) && people > 1; i++) {
                int one = below(people);
                int other = below(people);
                String pair = Math.min(one, other) + "-" + Math.max(one, other);
                if (one != other && pairs.add(pair) || below(60) == 0) {
                    out.append("cup p").append((char) ('a' + one)).append(" p").append((char) ('a' + other)).append(';');
                }
            }
            for (int i = 0; i < people; i++) {
                if (below(4) == 0) {
                    int from = below(12);
                    out.append("sick p").append((char) ('a' + i)).append(" from ").append(from).append(" to ").append(from + below(6)).append(';');
                }
            }
            if (below(6) != 0) {
                out.append("store ").append(below(below(2) == 0 ? 60 : 1000)).append(';');
            }
            if (below(2) != 0) {
                out.append("rest ").append(below(below(2) == 0 ? 2 : 8)).append(';');
            }
            if (below(2) != 0) {
                out.append("share ").append(law(0)).append(';');
            }
            return out.toString();
        }

        private String law(int depth) {
            String law = below(4) == 0 ? sum(depth) + pick("<", " = ") + sum(depth) : sum(depth);
            while (below(6) == 0) {
                law += pick(" and ", " or ") + (below(2) == 0 ? sum(depth) + pick("<", "=") + sum(depth) : sum(depth));
            }
            return law;
        }

        private String sum(int depth) {
            String sum = part(depth);
            while (below(2) == 0) {
                sum += pick("+", "-", "*", " + ") + part(depth);
            }
            return sum;
        }

        /** Now and then one too deep. */
        private String part(int depth) {
            if (depth >= 4 && below(40) != 0 || depth > 5 || below(3) != 0) {
                return pick("mouthful", "off", "seats", "slowly", "own", "mouthful", "" + below(30), below(9) == 0 ? "" + below(10000) : "2");
            }
            return below(3) == 0 ? "not " + part(depth + 1) : "(" + law(depth + 1) + ")";
        }

        private String weeksText() {
            StringBuilder out = new StringBuilder();
            int lines = below(20) == 0 ? 38 + below(5) : below(20);
            int people = Math.max(1, real.count(0));
            int dishes = Math.max(1, real.count(1));
            for (int i = 0; i < lines; i++) {
                String person = "p" + (char) ('a' + below(people));
                String dish = "d" + (char) ('a' + below(dishes));
                switch (below(5)) {
                    case 0: out.append("none;"); break;
                    case 1: out.append("abroad ").append(person).append(' ').append(dish).append(';'); break;
                    default: out.append("eat ").append(person).append(' ').append(dish).append(pick(" slow;", " fast;")); break;
                }
            }
            return out.toString();
        }

        private int person() {
            return below(15) == 0 ? pickEdge() : below(Math.max(1, real.count(0)));
        }

        private int dish() {
            return below(15) == 0 ? pickEdge() : below(Math.max(1, real.count(1)));
        }

        private int pickEdge() {
            int[] edges = {-2, -1, 3, 4, 5, 6, 7, 99, 100, Integer.MIN_VALUE, Integer.MAX_VALUE};
            return edges[below(edges.length)];
        }

        private int what(int most) {
            return below(15) == 0 ? pickEdge() : below(most + 1);
        }

        private String call() {
            int p = person();
            int q = person();
            int d = dish();
            boolean flag = random.nextBoolean();
            int w;
            switch (below(27)) {
                case 0: return textCall(false);
                case 1: w = what(7); return same("person " + p + " " + w, real.person(p, w), model.person(p, w));
                case 2: w = what(2); return same("dish " + d + " " + w, real.dish(d, w), model.dish(d, w));
                case 3: return same("would " + p + " " + d + " " + flag + " " + q, real.would(p, d, flag, q), model.would(p, d, flag, q));
                case 4:
                case 5:
                case 6: return same("eat " + p + " " + d + " " + flag, real.eat(p, d, flag), model.eat(p, d, flag));
                case 7: return same("abroad " + p + " " + d, real.abroad(p, d), model.abroad(p, d));
                case 8:
                case 9: return same("fast", real.fast(), model.fast());
                case 10: return same("undo", real.undo(), model.undo());
                case 11: w = what(3); return same("judged " + w, real.judged(w), model.judged(w));
                case 12:
                case 13: return plan();
                case 14: w = below(3) == 0 ? -1 : p; return same("tables " + d + " " + w, real.tables(d, w), model.tables(d, w));
                case 15: return same("last " + d, real.last(d), model.last(d));
                case 16:
                case 17: return tell(p);
                case 18:
                case 19: w = what(3); return same("sets " + d + " " + w, real.sets(d, w), model.sets(d, w));
                case 20: return same("stop " + p, real.stop(p), model.stop(p));
                case 21: w = what(20); return same("power " + p + " " + w, real.power(p, w), model.power(p, w));
                case 22: w = below(3) == 0 ? -1 : p; return same("couples " + w, real.couples(w), model.couples(w));
                case 23: return rests();
                case 24: return years();
                default: w = what(3); return same("mark " + w + " " + flag, real.mark(w, flag), model.mark(w, flag));
            }
        }

        /** Near hunger a plan is worth something. */
        private void fastUntilHungry() {
            for (int i = 0; i < 20; i++) {
                for (int p = 0; p < real.count(0); p++) {
                    if (real.person(p, 4) < 2 * real.person(p, 1)) {
                        return;
                    }
                }
                told.append("fast -> ").append(real.fast()).append('\n');
                model.fast();
            }
        }

        private String plan() {
            if (below(2) == 0) {
                fastUntilHungry();
            }
            // Three days are dear to the model where there are many meals.
            boolean many = real.count(0) * real.count(1) > 8;
            int days = below(15) == 0 ? pickEdge() : below(many && below(20) != 0 ? 3 : 4);
            int w = what(1);
            return same("plan " + days + " " + w, real.plan(days, w), model.plan(days, w));
        }

        private String tell(int p) {
            int full = below(15) == 0 ? pickEdge() : below(100);
            int now = real.person(p, 4);
            int d = dish();
            if (now >= 0 && below(4) != 0) {
                int abroad = real.abroad(p, d);
                model.abroad(p, d);
                real.undo();
                model.undo();
                full = below(2) == 0 || abroad < 0 ? now : abroad;
            }
            return same("tell " + p + " " + full, real.tell(p, full), model.tell(p, full));
        }

        private String rests() {
            int bites = below(10) == 0 ? pickEdge() : below(22);
            int loss = below(10) == 0 ? pickEdge() : below(11);
            int w = below(10) == 0 ? pickEdge() : below(4) - 1;
            int got;
            int want;
            try {
                got = real.rests(bites, loss, w);
            } catch (NoSuchElementException e) {
                got = -99;
            }
            try {
                want = model.rests(bites, loss, w);
            } catch (NoSuchElementException e) {
                want = -99;
            }
            return same("rests " + bites + " " + loss + " " + w, got, want);
        }

        private String years() {
            int s = below(10) == 0 ? pickEdge() : below(10001);
            int days = below(10) == 0 ? pickEdge() : below(102);
            int w = what(2);
            return same("years " + s + " " + days + " " + w, real.years(s, days, w), model.years(s, days, w));
        }
    }

    private static final class Fault extends RuntimeException {
        private static final long serialVersionUID = 1L;
        final int code;

        Fault(int kind, int place) {
            this.code = kind + 16 * place;
        }
    }

    private record Token(String kind, String text, int place) {
    }

    private record Person(String name, int kind, int hunger, int taste, int votes) {
    }

    private record Dish(String name, int bites, int salt, int cost) {
    }

    private record Line(String how, int person, int dish) {
    }

    private interface E {
        int of(Map<String, Integer> facts);
    }

    private static final class State {
        int day;
        int store;
        int ill;
        int[] full = new int[0];
        int[] ate = new int[0];
        int[] hungry = new int[0];

        State copy() {
            State s = new State();
            s.day = day;
            s.store = store;
            s.ill = ill;
            s.full = full.clone();
            s.ate = ate.clone();
            s.hungry = hungry.clone();
            return s;
        }
    }

    private static final class Commune {
        final List<Person> people = new ArrayList<>();
        final List<Dish> dishes = new ArrayList<>();
        final Set<String> cups = new TreeSet<>();
        final Map<Integer, int[]> sick = new HashMap<>();
        Integer store = null;
        Integer rest = null;
        E share = null;

        int personOf(String name) {
            for (int i = 0; i < people.size(); i++) {
                if (people.get(i).name().equals(name)) {
                    return i;
                }
            }
            return -1;
        }

        int dishOf(String name) {
            for (int i = 0; i < dishes.size(); i++) {
                if (dishes.get(i).name().equals(name)) {
                    return i;
                }
            }
            return -1;
        }

        boolean cup(int a, int b) {
            return cups.contains(Math.min(a, b) + "-" + Math.max(a, b));
        }
    }

    private static final class Parser {
        private static final Set<String> RESERVED = Set.of("person", "hungry", "taste", "votes", "dish", "bites", "salt", "cost", "cup",
            "sick", "from", "to", "store", "rest", "share", "eat", "abroad", "none", "slow", "fast", "plain", "greedy", "loved", "old",
            "not", "and", "or");
        private static final List<String> KINDS = List.of("plain", "greedy", "loved", "old");
        private static final List<String> FACTS = List.of("mouthful", "off", "seats", "slowly", "own");
        private final List<Token> tokens = new ArrayList<>();
        private int at = 0;

        Parser(String text) {
            java.util.regex.Matcher m = java.util.regex.Pattern.compile("[a-z]+|[0-9]+|[()<=+*;-]|[ \n]+|[^a-z0-9 \n]").matcher(text);
            while (m.find()) {
                String t = m.group();
                if (t.isBlank()) {
                    continue;
                }
                String kind = t.matches("[a-z]{1,8}") ? "word" : t.matches("[0-9]{1,4}") ? "number" : t.matches("[()<=+*;-]") ? "sign" : "none";
                tokens.add(new Token(kind, t, m.start()));
            }
            tokens.add(new Token("end", "", text.length()));
        }

        private Token token() {
            return tokens.get(at);
        }

        private Fault fault(int kind) {
            return new Fault(kind, token().place());
        }

        private boolean isNext(String text) {
            return !token().kind().equals("none") && token().text().equals(text) && !token().kind().equals("end");
        }

        private void take(String text) {
            if (!isNext(text)) {
                throw fault(1);
            }
            at++;
        }

        private int number(int least, int most) {
            if (!token().kind().equals("number")) {
                throw fault(1);
            }
            int n = Integer.parseInt(token().text());
            if (n < least || n > most) {
                throw fault(4);
            }
            at++;
            return n;
        }

        private String name() {
            if (!token().kind().equals("word") || RESERVED.contains(token().text())) {
                throw fault(1);
            }
            return token().text();
        }

        private int known(int index) {
            if (index < 0) {
                throw fault(2);
            }
            return index;
        }

        private String fresh(Commune c) {
            String name = name();
            if (c.personOf(name) >= 0 || c.dishOf(name) >= 0) {
                throw fault(3);
            }
            at++;
            return name;
        }

        Commune commune() {
            Commune c = new Commune();
            while (!token().kind().equals("end")) {
                statement(c);
                take(";");
            }
            return c;
        }

        private void statement(Commune c) {
            if (isNext("person")) {
                person(c);
            } else if (isNext("dish")) {
                dish(c);
            } else if (isNext("cup")) {
                at++;
                int one = known(c.personOf(name()));
                at++;
                int other = known(c.personOf(name()));
                if (one == other || c.cup(one, other)) {
                    throw fault(3);
                }
                at++;
                c.cups.add(Math.min(one, other) + "-" + Math.max(one, other));
            } else if (isNext("sick")) {
                at++;
                int one = known(c.personOf(name()));
                if (c.sick.containsKey(one)) {
                    throw fault(3);
                }
                at++;
                take("from");
                int from = number(0, 99);
                take("to");
                c.sick.put(one, new int[] {from, number(from, 99)});
            } else if (isNext("store")) {
                once(c.store);
                c.store = number(0, 999);
            } else if (isNext("rest")) {
                once(c.rest);
                c.rest = number(0, 7);
            } else if (isNext("share")) {
                once(c.share);
                c.share = e(0);
            } else {
                throw fault(1);
            }
        }

        private void once(Object already) {
            if (already != null) {
                throw fault(3);
            }
            at++;
        }

        private void person(Commune c) {
            if (c.people.size() == 6) {
                throw fault(5);
            }
            at++;
            String name = fresh(c);
            int kind = KINDS.indexOf(token().text());
            if (kind < 0) {
                throw fault(1);
            }
            at++;
            take("hungry");
            int hunger = number(0, 9);
            take("taste");
            int taste = number(0, 9);
            take("votes");
            c.people.add(new Person(name, kind, hunger, taste, number(0, 99)));
        }

        private void dish(Commune c) {
            if (c.dishes.size() == 5) {
                throw fault(5);
            }
            at++;
            String name = fresh(c);
            take("bites");
            int bites = number(0, 20);
            take("salt");
            int salt = number(0, 9);
            take("cost");
            c.dishes.add(new Dish(name, bites, salt, number(0, 20)));
        }

        List<Line> weeks(Commune c) {
            List<Line> lines = new ArrayList<>();
            while (!token().kind().equals("end")) {
                if (!isNext("eat") && !isNext("abroad") && !isNext("none")) {
                    throw fault(1);
                }
                if (lines.size() == 40) {
                    throw fault(5);
                }
                String how = token().text();
                at++;
                int person = -1;
                int dish = -1;
                if (!how.equals("none")) {
                    person = known(c.personOf(name()));
                    at++;
                    dish = known(c.dishOf(name()));
                    at++;
                }
                if (how.equals("eat")) {
                    how = token().text();
                    if (!how.equals("slow") && !how.equals("fast")) {
                        throw fault(1);
                    }
                    at++;
                }
                take(";");
                lines.add(new Line(how, person, dish));
            }
            return lines;
        }

        private E e(int depth) {
            E left = test(depth);
            while (isNext("and") || isNext("or")) {
                boolean and = isNext("and");
                at++;
                E l = left;
                E r = test(depth);
                left = f -> and ? so(l.of(f) != 0 & r.of(f) != 0) : so(l.of(f) != 0 | r.of(f) != 0);
            }
            return left;
        }

        private E test(int depth) {
            E l = sum(depth);
            if (isNext("<")) {
                at++;
                E r = sum(depth);
                return f -> so(l.of(f) < r.of(f));
            }
            if (isNext("=")) {
                at++;
                E r = sum(depth);
                return f -> so(l.of(f) == r.of(f));
            }
            return l;
        }

        private E sum(int depth) {
            E left = product(depth);
            while (isNext("+") || isNext("-")) {
                int sign = isNext("+") ? 1 : -1;
                at++;
                E l = left;
                E r = product(depth);
                left = f -> l.of(f) + sign * r.of(f);
            }
            return left;
        }

        private E product(int depth) {
            E left = part(depth);
            while (isNext("*")) {
                at++;
                E l = left;
                E r = part(depth);
                left = f -> l.of(f) * r.of(f);
            }
            return left;
        }

        private E part(int depth) {
            boolean number = token().kind().equals("number");
            boolean fact = FACTS.contains(token().text());
            if (!number && !fact && !isNext("not") && !isNext("(")) {
                throw fault(1);
            }
            if (depth >= 5) {
                throw fault(5);
            }
            String text = token().text();
            at++;
            if (number) {
                int n = Integer.parseInt(text);
                return f -> n;
            }
            if (fact) {
                return f -> f.get(text);
            }
            if (text.equals("not")) {
                E of = part(depth + 1);
                return f -> so(of.of(f) == 0);
            }
            E inside = e(depth + 1);
            take(")");
            return inside;
        }

        private static int so(boolean b) {
            return b ? 1 : 0;
        }
    }

    private record Marked(State state, List<Line> weeks, Map<Integer, Integer> told) {
    }

    private static final class Model {
        private String tape = "";
        private Commune c = new Commune();
        private List<Line> weeks = List.of();
        private State now = new State();
        private final Deque<State> past = new ArrayDeque<>();
        private final Map<Integer, Marked> marks = new HashMap<>();
        private Map<Integer, Integer> told = new HashMap<>();
        private final Map<String, Integer> shares = new HashMap<>();

        int feed(long... rows) {
            StringBuilder out = new StringBuilder(tape);
            for (long row : rows) {
                for (byte b : java.nio.ByteBuffer.allocate(8).putLong(row).array()) {
                    if ((b == 10 || b >= 32 && b <= 126) && out.length() < 1000) {
                        out.append((char) b);
                    }
                }
            }
            tape = out.toString();
            return tape.length();
        }

        private String taken() {
            String text = tape;
            tape = "";
            return text;
        }

        int commune() {
            try {
                c = new Parser(taken()).commune();
            } catch (Fault f) {
                return f.code;
            }
            shares.clear();
            now = beginning();
            weeks = List.of();
            past.clear();
            marks.clear();
            told = new HashMap<>();
            return 0;
        }

        int weeks() {
            try {
                weeks = new Parser(taken()).weeks(c);
            } catch (Fault f) {
                return f.code;
            }
            return 0;
        }

        private State beginning() {
            State s = new State();
            s.store = c.store == null ? 0 : c.store;
            s.full = new int[c.people.size()];
            s.ate = new int[c.people.size()];
            s.hungry = new int[c.people.size()];
            Arrays.fill(s.full, 50);
            Arrays.fill(s.ate, -1);
            return s;
        }

        private boolean isP(int p) {
            return p >= 0 && p < c.people.size();
        }

        private boolean isD(int d) {
            return d >= 0 && d < c.dishes.size();
        }

        private boolean sits(State s, int p) {
            int[] days = c.sick.get(p);
            return days == null || s.day < days[0] || s.day > days[1];
        }

        private int share(int eater, int dish, boolean slow, int seats, boolean own) {
            String key = eater + " " + dish + " " + slow + " " + seats + " " + own;
            return shares.computeIfAbsent(key, k -> {
                int mouthful = c.dishes.get(dish).bites();
                int off = Math.abs(c.dishes.get(dish).salt() - c.people.get(eater).taste());
                int e = c.share == null ? mouthful - off - seats
                    : c.share.of(Map.of("mouthful", mouthful, "off", off, "seats", seats, "slowly", slow ? 1 : 0, "own", own ? 1 : 0));
                return e < 0 ? 0 : e > 99 ? 99 : e;
            });
        }

        private int shareOfMeal(int eater, int dish, boolean slow, int p) {
            int e = share(eater, dish, slow, Math.abs(eater - p), eater == p);
            int kind = c.people.get(eater).kind();
            if (kind == 1 && p == eater) {
                return 2 * e;
            }
            if (kind == 2 && p != eater) {
                return e + 1;
            }
            if (kind == 3 && p != eater) {
                return e == 0 ? 0 : e - 1;
            }
            return e;
        }

        private int cost(int eater, int dish) {
            return c.dishes.get(dish).cost() * (c.people.get(eater).kind() == 1 ? 2 : 1);
        }

        private boolean can(State s, int eater, int dish) {
            return isP(eater) && isD(dish) && sits(s, eater) && s.store >= cost(eater, dish);
        }

        private boolean ill(State s, int eater) {
            int rest = c.rest == null ? 2 : c.rest;
            for (int ago = 1; ago <= rest; ago++) {
                if (s.ate[eater] >= 0 && s.ate[eater] == s.day - ago) {
                    return true;
                }
            }
            return false;
        }

        private int gives(State s, int eater, int dish, boolean slow, int p) {
            return ill(s, eater) || !sits(s, p) ? 0 : shareOfMeal(eater, dish, slow, p);
        }

        /** The state behind a day with a meal; a fast without an eater. */
        private State day(State before, int eater, int dish, boolean slow) {
            State s = before.copy();
            if (eater >= 0) {
                for (int p = 0; p < s.full.length; p++) {
                    s.full[p] = Math.min(99, s.full[p] + gives(before, eater, dish, slow, p));
                }
                s.store -= cost(eater, dish);
                s.ill += ill(before, eater) ? 1 : 0;
                s.ate[eater] = s.day;
            }
            for (int p = 0; p < s.full.length; p++) {
                s.full[p] -= c.people.get(p).hunger();
                if (s.full[p] < 0) {
                    s.full[p] = 0;
                    s.hungry[p]++;
                }
            }
            s.day++;
            return s;
        }

        private static int sum(int[] row) {
            return Arrays.stream(row).sum();
        }

        private void becomes(State s) {
            past.push(now);
            if (past.size() > 16) {
                past.removeLast();
            }
            now = s;
        }

        int person(int p, int what) {
            if (!isP(p)) {
                return -1;
            }
            Person x = c.people.get(p);
            int[] row = {x.kind(), x.hunger(), x.taste(), x.votes(), now.full[p], sits(now, p) ? 1 : 0, now.ate[p], now.hungry[p]};
            return what >= 0 && what < 8 ? row[what] : -1;
        }

        int dish(int d, int what) {
            if (!isD(d)) {
                return -1;
            }
            Dish x = c.dishes.get(d);
            return what == 0 ? x.bites() : what == 1 ? x.salt() : what == 2 ? x.cost() : -1;
        }

        int would(int eater, int dish, boolean slow, int p) {
            return can(now, eater, dish) && isP(p) ? gives(now, eater, dish, slow, p) : -1;
        }

        int eat(int eater, int dish, boolean slow) {
            if (!can(now, eater, dish)) {
                return -1;
            }
            int answer = ill(now, eater) ? 0 : 1;
            becomes(day(now, eater, dish, slow));
            return answer;
        }

        private State fedAbroad(State before, int p, int dish) {
            State s = before.copy();
            s.full[p] = Math.min(99, s.full[p] + share(p, dish, false, 0, true));
            return s;
        }

        int abroad(int p, int dish) {
            if (!isP(p) || !isD(dish)) {
                return -1;
            }
            becomes(fedAbroad(now, p, dish));
            return now.full[p];
        }

        int fast() {
            becomes(day(now, -1, -1, false));
            return now.day;
        }

        boolean undo() {
            if (past.isEmpty()) {
                return false;
            }
            now = past.pop();
            return true;
        }

        int judged(int what) {
            int[] answers = {-1, -1, -1, 0};
            State s = beginning();
            for (int i = 0; i < weeks.size(); i++) {
                Line line = weeks.get(i);
                State before = s;
                if (line.how().equals("abroad")) {
                    s = fedAbroad(s, line.person(), line.dish());
                } else if (line.how().equals("none")) {
                    s = day(s, -1, -1, false);
                } else if (can(s, line.person(), line.dish())) {
                    s = day(s, line.person(), line.dish(), line.how().equals("slow"));
                } else if (answers[0] < 0) {
                    answers[0] = i;
                }
                if (answers[1] < 0 && sum(s.hungry) > sum(before.hungry)) {
                    answers[1] = i;
                }
                if (answers[2] < 0 && s.ill > before.ill) {
                    answers[2] = i;
                }
            }
            answers[3] = s.store;
            return what >= 0 && what < 4 ? answers[what] : -2;
        }

        private List<Integer> bestPlan = null;
        private int bestCost = 0;

        int plan(int days, int what) {
            if (days < 0 || days > 3 || what < 0 || what > 1) {
                return -2;
            }
            bestPlan = null;
            tryPlans(now, days, new ArrayList<>(), 0);
            if (bestPlan == null) {
                return -2;
            }
            return what == 0 ? bestCost : bestPlan.isEmpty() ? -1 : bestPlan.get(0);
        }

        private void tryPlans(State s, int days, List<Integer> row, int spent) {
            if (sum(s.hungry) > sum(now.hungry)) {
                return;
            }
            if (row.size() == days) {
                if (bestPlan == null || spent < bestCost || spent == bestCost && isAhead(row, bestPlan)) {
                    bestPlan = new ArrayList<>(row);
                    bestCost = spent;
                }
                return;
            }
            for (int choice = 60; choice >= 0; choice--) {
                int eater = choice / 10;
                int dish = choice % 10 / 2;
                if (choice == 60 || can(s, eater, dish)) {
                    row.add(choice);
                    State then = choice == 60 ? day(s, -1, -1, false) : day(s, eater, dish, choice % 2 == 0);
                    tryPlans(then, days, row, spent + s.store - then.store);
                    row.remove(row.size() - 1);
                }
            }
        }

        private static boolean isAhead(List<Integer> a, List<Integer> b) {
            for (int i = 0; i < a.size(); i++) {
                if (!a.get(i).equals(b.get(i))) {
                    return a.get(i) < b.get(i);
                }
            }
            return false;
        }

        int tables(int dish, int p) {
            if (!isD(dish) || p != -1 && !isP(p)) {
                return -2;
            }
            int n = c.people.size();
            List<Integer> best = null;
            int most = -1;
            int ways = (int) Math.pow(n, n);
            for (int way = 0; way < ways; way++) {
                List<Integer> row = new ArrayList<>();
                int code = way;
                int tables = 0;
                boolean numbered = true;
                for (int i = 0; i < n; i++) {
                    int table = code % n;
                    code /= n;
                    if (!sits(now, i)) {
                        numbered &= table == 0;
                        row.add(-1);
                    } else {
                        numbered &= table <= tables;
                        tables = Math.max(tables, table + 1);
                        row.add(table);
                    }
                }
                if (!numbered) {
                    continue;
                }
                int worth = worthOfRow(dish, row, tables);
                if (best == null || worth > most || worth == most && isAhead(row, best)) {
                    best = row;
                    most = worth;
                }
            }
            return p == -1 ? most : best.get(p);
        }

        private int worthOfRow(int dish, List<Integer> row, int tables) {
            int worth = 0;
            for (int t = 0; t < tables; t++) {
                int best = 0;
                for (int eater = 0; eater < row.size(); eater++) {
                    int sum = 0;
                    for (int p = 0; p < row.size() && row.get(eater) == t; p++) {
                        sum += row.get(p) == t ? shareOfMeal(eater, dish, true, p) : 0;
                    }
                    best = Math.max(best, sum);
                }
                worth += best;
            }
            return worth;
        }

        int last(int dish) {
            if (!isD(dish)) {
                return -1;
            }
            State s = now;
            int behind = c.people.size() - 1;
            for (int days = 0; days < 60; days++) {
                int eater = -1;
                for (int i = 1; i <= c.people.size() && eater < 0; i++) {
                    int p = (behind + i) % c.people.size();
                    if (can(s, p, dish) && !ill(s, p)) {
                        eater = p;
                    }
                }
                if (eater < 0) {
                    return days;
                }
                s = day(s, eater, dish, true);
                if (sum(s.hungry) > sum(now.hungry)) {
                    return days;
                }
                behind = eater;
            }
            return 60;
        }

        boolean tell(int p, int full) {
            if (!isP(p) || full < 0 || full > 99) {
                return false;
            }
            told.put(p, full);
            return true;
        }

        int sets(int dish, int what) {
            if (!isD(dish) || what < 0 || what > 3) {
                return -1;
            }
            List<Integer> sets = new ArrayList<>();
            int all = (1 << c.people.size()) - 1;
            int some = 0;
            for (int set = 0; set < 1 << c.people.size(); set++) {
                State s = stateBy(set, dish);
                if (told.entrySet().stream().allMatch(t -> s.full[t.getKey()] == t.getValue())) {
                    sets.add(set);
                    all &= set;
                    some |= set;
                }
            }
            if (what == 0) {
                return sets.size();
            }
            if (sets.isEmpty()) {
                return -1;
            }
            if (what == 3) {
                return whom(sets, dish);
            }
            return what == 1 ? all : some;
        }

        private State stateBy(int set, int dish) {
            State s = now;
            for (int p = 0; p < c.people.size(); p++) {
                if ((set & 1 << p) != 0) {
                    s = fedAbroad(s, p, dish);
                }
            }
            return s;
        }

        private int whom(List<Integer> sets, int dish) {
            int best = -1;
            int least = sets.size();
            for (int p = 0; p < c.people.size(); p++) {
                if (told.containsKey(p)) {
                    continue;
                }
                Map<Integer, Integer> alike = new HashMap<>();
                for (int set : sets) {
                    alike.merge(stateBy(set, dish).full[p], 1, Integer::sum);
                }
                int greatest = alike.values().stream().mapToInt(x -> x).max().getAsInt();
                if (greatest < least) {
                    least = greatest;
                    best = p;
                }
            }
            return best;
        }

        int stop(int p) {
            if (!isP(p) || !sits(now, p)) {
                return -1;
            }
            int best = -1;
            for (int set = (1 << c.people.size()) - 1; set >= 0; set--) {
                boolean allowed = (set & 1 << p) == 0;
                for (int i = 0; i < c.people.size(); i++) {
                    allowed &= (set & 1 << i) == 0 || sits(now, i);
                }
                if (allowed && !leadsToSick(p, set, 1 << p)
                    && (best < 0 || Integer.bitCount(set) <= Integer.bitCount(best))) {
                    best = set;
                }
            }
            return best;
        }

        private boolean leadsToSick(int at, int away, int seen) {
            if (!sits(now, at)) {
                return true;
            }
            for (int i = 0; i < c.people.size(); i++) {
                if (c.cup(at, i) && ((away | seen) & 1 << i) == 0 && leadsToSick(i, away, seen | 1 << i)) {
                    return true;
                }
            }
            return false;
        }

        int power(int p, int quota) {
            return isP(p) && quota >= 0 && quota <= 999 ? powerFrom(p, quota, 0, 0) : -1;
        }

        private int powerFrom(int p, int quota, int i, int votes) {
            if (i == c.people.size()) {
                return votes < quota && votes + c.people.get(p).votes() >= quota ? 1 : 0;
            }
            int without = powerFrom(p, quota, i + 1, votes);
            return i == p ? without : without + powerFrom(p, quota, i + 1, votes + c.people.get(i).votes());
        }

        int couples(int p) {
            if (p != -1 && !isP(p)) {
                return -2;
            }
            int n = c.people.size();
            int sitting = 0;
            for (int i = 0; i < n; i++) {
                sitting += sits(now, i) ? 1 : 0;
            }
            int[] best = null;
            int least = 0;
            // All rows of others, n standing for none.
            int[] row = new int[n];
            int ways = (int) Math.pow(n + 1, n);
            for (int way = 0; way < ways; way++) {
                int code = way;
                for (int i = n - 1; i >= 0; i--) {
                    row[i] = code % (n + 1);
                    code /= n + 1;
                }
                int apart = apart(row, sitting % 2);
                if (apart >= 0 && (best == null || apart < least)) {
                    best = row.clone();
                    least = apart;
                }
            }
            if (p == -1) {
                return least;
            }
            return best[p] == n ? -1 : best[p];
        }

        /** -1 if the row pairs them wrongly. */
        private int apart(int[] row, int alone) {
            int n = row.length;
            int apart = 0;
            int left = alone;
            for (int i = 0; i < n; i++) {
                if (row[i] == n) {
                    left -= sits(now, i) ? 1 : 0;
                } else if (row[i] == i || row[row[i]] != i || !sits(now, i)) {
                    return -1;
                } else if (row[i] > i) {
                    apart += Math.abs(c.people.get(i).taste() - c.people.get(row[i]).taste());
                }
            }
            return left == 0 ? apart : -1;
        }

        int rests(int bites, int loss, int what) {
            if (bites < 0 || bites > 20 || loss < 0 || loss > 9) {
                throw new NoSuchElementException();
            }
            List<Integer> rests = new ArrayList<>();
            for (int a = 1; a <= 5; a++) {
                for (int b = 1; b <= 5; b++) {
                    boolean better = false;
                    for (int i = 1; i <= 5; i++) {
                        better |= got(i, b, bites, loss) > got(a, b, bites, loss);
                        better |= got(i, a, bites, loss) > got(b, a, bites, loss);
                    }
                    if (!better) {
                        rests.add(10 * a + b);
                    }
                }
            }
            if (what == -1) {
                return rests.size();
            }
            if (what < 0 || what >= rests.size()) {
                throw new NoSuchElementException();
            }
            return rests.get(what);
        }

        private static int got(int own, int other, int bites, int loss) {
            int beyond = own + other > bites ? own + other - bites : 0;
            return 3 * own - loss * beyond;
        }

        private long g = 0;

        private int draw(int m) {
            g = (g * 1103515245L + 12345L) & 0x7fffffffL;
            return (int) ((g >> 16) % m);
        }

        int years(int seed, int days, int what) {
            if (seed < 0 || seed > 9999 || days < 1 || days > 100 || what < 0 || what > 2) {
                return -1;
            }
            g = seed;
            State s = now.copy();
            for (int i = 0; i < days; i++) {
                if (draw(10) == 0) {
                    s.store = (s.store + 1) / 2;
                }
                int eater = -1;
                int dish = -1;
                boolean slow = false;
                if (!c.people.isEmpty() && !c.dishes.isEmpty()) {
                    eater = draw(c.people.size());
                    dish = draw(c.dishes.size());
                    slow = draw(2) == 0;
                }
                s = can(s, eater, dish) ? day(s, eater, dish, slow) : day(s, -1, -1, false);
            }
            return what == 0 ? sum(s.hungry) - sum(now.hungry) : what == 1 ? s.ill - now.ill : s.store;
        }

        boolean mark(int mark, boolean back) {
            if (mark < 0 || mark > 3 || back && !marks.containsKey(mark)) {
                return false;
            }
            if (!back) {
                marks.put(mark, new Marked(now.copy(), weeks, new HashMap<>(told)));
                return true;
            }
            Marked m = marks.get(mark);
            State s = m.state().copy();
            s.hungry = now.hungry.clone();
            s.ill = now.ill;
            now = s;
            weeks = m.weeks();
            told = new HashMap<>(m.told());
            past.clear();
            return true;
        }

        int count(int what) {
            int sits = 0;
            for (int i = 0; i < c.people.size(); i++) {
                sits |= sits(now, i) ? 1 << i : 0;
            }
            int[] row = {c.people.size(), c.dishes.size(), c.cups.size(), now.day, now.store, sits, sum(now.hungry), now.ill,
                weeks.size(), told.size(), past.size(), tape.length(), sum(now.full)};
            return what >= 0 && what < row.length ? row[what] : -1;
        }
    }
}
