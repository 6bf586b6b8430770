import java.util.NoSuchElementException;

/** For each promise of the document: ordinary inputs, the edges it names, and wrong inputs; all answers worked out by hand. */
public final class PromisesTest {
    private static final String PEOPLE = "person ann plain hungry 4 taste 3 votes 3;person ben greedy hungry 6 taste 7 votes 2;"
        + "person cat loved hungry 2 taste 5 votes 2;person dan old hungry 5 taste 0 votes 1;";
    private static final String DISHES = "dish soup bites 9 salt 4 cost 3;dish ham bites 14 salt 8 cost 6;";
    private static final String BASE = PEOPLE + DISHES + "cup ann ben;cup ben cat;cup cat dan;sick dan from 2 to 4;store 40;";
    private static final String ONE = "person a plain hungry 0 taste 0 votes 0;dish d bites 7 salt 2 cost 0;";

    private static int wrong = 0;
    private static int checks = 0;

    public static void main(String[] args) {
        aNewObject();
        feed();
        commune();
        communeFaults();
        readAgain();
        allThere();
        law();
        lawFaults();
        weeks();
        personAndDish();
        would();
        eat();
        eatEdges();
        abroad();
        fast();
        undo();
        judged();
        plan();
        planTies();
        tables();
        last();
        tellAndSets();
        stop();
        power();
        couples();
        rests();
        years();
        mark();
        count();
        System.out.println(checks + " checks, " + wrong + " wrong");
        if (wrong != 0) {
            System.exit(1);
        }
    }

    private static void due(String what, long want, long got) {
        checks++;
        if (want != got) {
            wrong++;
            System.out.println(what + " answered " + got + ", due is " + want);
        }
    }

    private static void due(String what, boolean want, boolean got) {
        due(what, want ? 1 : 0, got ? 1 : 0);
    }

    private static long eight(String text, int from) {
        long bytes = 0;
        for (int i = from; i < from + 8; i++) {
            bytes = bytes << 8 | (i < text.length() ? text.charAt(i) : 0);
        }
        return bytes;
    }

    private static void feedText(TableTurns x, String text) {
        for (int i = 0; i < text.length(); i += 24) {
            x.feed(eight(text, i), eight(text, i + 8), eight(text, i + 16));
        }
    }

    private static int commune(TableTurns x, String text) {
        feedText(x, text);
        return x.commune();
    }

    private static int weeks(TableTurns x, String text) {
        feedText(x, text);
        return x.weeks();
    }

    private static TableTurns told(String text) {
        TableTurns x = new TableTurns();
        due("commune " + text, 0, commune(x, text));
        return x;
    }

    private static String times(int n, String text) {
        return text.repeat(n);
    }

    private static void aNewObject() {
        due("1 NONE", -1, TableTurns.NONE);
        TableTurns x = new TableTurns();
        for (int what = 0; what <= 12; what++) {
            due("1 count " + what, 0, x.count(what));
        }
        due("1 person", -1, x.person(0, 0));
        due("1 dish", -1, x.dish(0, 0));
        due("1 eat", -1, x.eat(0, 0, true));
        due("1 abroad", -1, x.abroad(0, 0));
        due("1 undo", false, x.undo());
        due("1 back", false, x.mark(0, true));
        due("1 tell", false, x.tell(0, 50));
        due("1 sets", -1, x.sets(0, 0));
        due("1 stop", -1, x.stop(0));
        due("1 last", -1, x.last(0));
        due("1 couples", 0, x.couples(-1));
        due("1 couples of nobody", -2, x.couples(0));
        due("1 judged store", 0, x.judged(3));
        due("1 plan", 60, x.plan(3, 1));
        due("1 fast", 1, x.fast());
    }

    private static void feed() {
        TableTurns x = new TableTurns();
        due("2 nothing", 0, x.feed(0, 0, 0));
        due("2 edges of the signs", 3, x.feed(0x0A_20_7E_09_0B_1F_7F_80L, 0, 0));
        due("2 bytes above 127", 3, x.feed(-1L, -1L, 0x80_FF_C1_E1_00_00_00_00L));
        due("2 from all three", 6, x.feed(0x61L, 0x61_00_00_00_00_00_00_00L, 0x61_00L));
        due("2 count", 6, x.count(11));
        long eightBlanks = 0x20_20_20_20_20_20_20_20L;
        x = new TableTurns();
        for (int i = 1; i <= 41; i++) {
            due("2 blanks", 24 * i, x.feed(eightBlanks, eightBlanks, eightBlanks));
        }
        due("2 full", 1000, x.feed(eightBlanks, eightBlanks, eightBlanks));
        due("2 beyond", 1000, x.feed(eightBlanks, 0x61L, 0x61L));
        due("2 all blanks are a commune", 0, x.commune());
        due("2 taken", 0, x.count(11));
        x = new TableTurns();
        due("2 the highest first, a first", 9, x.feed(eight("store 12", 0), 0, 0x3BL));
        due("2 read", 0, x.commune());
        due("2 store", 12, x.count(4));
    }

    private static void commune() {
        TableTurns x = told(BASE);
        due("3 people", 4, x.count(0));
        due("3 dishes", 2, x.count(1));
        due("3 cups", 3, x.count(2));
        due("3 store", 40, x.count(4));
        due("3 full", 200, x.count(12));
        x.eat(0, 0, true);
        x.tell(0, 50);
        x.mark(2, false);
        weeks(x, "none;none;");
        due("3 a fault", 1, commune(x, "x"));
        due("3 the fault leaves all", 4, x.count(0));
        due("3 the fault leaves the day", 1, x.count(3));
        due("3 the fault leaves the weeks", 2, x.count(8));
        due("3 the fault leaves what is told", 1, x.count(9));
        due("3 the fault leaves undo", 1, x.count(10));
        due("3 the fault takes the tape", 0, x.count(11));
        due("3 a late fault", 16 * 71 + 1, commune(x, "person zoe plain hungry 1 taste 1 votes 1;dish pie bites 1 salt 1 cost x;"));
        due("3 nobody new", 4, x.count(0));
        due("3 no dish new", 9, x.dish(0, 0));
        due("3 anew", 0, commune(x, "person zoe old hungry 1 taste 1 votes 1;store 7;"));
        due("3 one person", 1, x.count(0));
        due("3 no dishes", 0, x.count(1));
        due("3 no cups", 0, x.count(2));
        due("3 day 0", 0, x.count(3));
        due("3 the store told", 7, x.count(4));
        due("3 full by 50", 50, x.count(12));
        due("3 nobody has eaten", -1, x.person(0, 6));
        due("3 no weeks", 0, x.count(8));
        due("3 nothing told", 0, x.count(9));
        due("3 nothing undone", false, x.undo());
        due("3 no mark", false, x.mark(2, true));
        due("3 empty", 0, commune(x, ""));
        due("3 empty people", 0, x.count(0));
        due("3 empty store", 0, x.count(4));
        due("3 not sick any more", 0, commune(x, BASE.replace("sick dan from 2 to 4;", "")));
        x.fast();
        x.fast();
        due("3 all sit", 15, x.count(5));
        hungryAndIllAnew();
        due("3 without blanks", 0, commune(x, "person a plain hungry4taste0votes0;dish b\nbites 0007 salt 0cost 0;"));
        due("3 leading zeros", 7, x.dish(0, 0));
        due("3 facts can be names", 0, commune(x, "person mouthful old hungry 1 taste 1 votes 1;dish own bites 1 salt 1 cost 1;dish seats bites 1 salt 1 cost 1;"));
        due("3 cup of one behind", 0, commune(x, "person a old hungry 1 taste 1 votes 1;person b old hungry 1 taste 1 votes 1;cup b a;"));
    }

    private static void hungryAndIllAnew() {
        TableTurns x = told("person a plain hungry 9 taste 0 votes 0;dish d bites 0 salt 0 cost 0;");
        for (int i = 0; i < 7; i++) {
            x.eat(0, 0, true);
        }
        due("3 ill ahead", 6, x.count(7));
        due("3 hungry ahead", 2, x.count(6));
        commune(x, "person a plain hungry 9 taste 0 votes 0;");
        due("3 ill anew", 0, x.count(7));
        due("3 hungry anew", 0, x.count(6));
        due("3 hungry anew of one", 0, x.person(0, 7));
    }

    private static void fault(String text, int kind, int place) {
        TableTurns x = told("store 77;");
        x.fast();
        due("3 fault of " + text, kind + 16 * place, commune(x, text));
        due("3 all stays by " + text, kind == 0 ? 0 : 1, x.count(3));
    }

    private static void readAgain() {
        TableTurns x = new TableTurns();
        commune(x, "store 5;rest 5;share 5;?");
        due("3 told in a text with a fault", 0, commune(x, ONE + "store 0;rest 0;share ((((7))));"));
        due("3 store 0", 0, x.count(4));
        x.eat(0, 0, true);
        due("3 rest 0", 7, x.would(0, 0, true, 0));
        commune(x, "share not(not(2");
        due("3 nothing is left open", 0, commune(x, ONE + "share ((((7))))<8;"));
        due("3 its worth", 1, x.would(0, 0, true, 0));
        commune(x, "share 2*");
        due("3 nothing waits", 0, commune(x, ONE));
        due("3 the usual law again", 5, x.would(0, 0, true, 0));
        x.eat(0, 0, true);
        x.fast();
        due("3 the usual rest again", 0, x.would(0, 0, true, 0));
        commune(x, PEOPLE);
        due("3 ben is greedy", 1, x.person(1, 0));
        commune(x, PEOPLE.replace("greedy", "plain"));
        due("3 ben is plain", 0, x.person(1, 0));
        commune(x, "rest 1;rest 1;");
        due("3 rest again", 0, commune(x, "rest 1;"));
    }

    private static void allThere() {
        String text = "";
        for (int i = 0; i < 6; i++) {
            text += "person p" + (char) ('a' + i) + " plain hungry 1 taste " + i + " votes 1;";
        }
        for (int i = 0; i < 5; i++) {
            text += "dish d" + (char) ('a' + i) + " bites " + 2 * i + " salt 0 cost 1;";
        }
        for (int i = 0; i < 6; i++) {
            for (int j = i + 1; j < 6; j++) {
                text += "cup p" + (char) ('a' + i) + " p" + (char) ('a' + j) + ";";
            }
        }
        TableTurns x = told(text + "store 99;");
        due("24 six", 6, x.count(0));
        due("24 five", 5, x.count(1));
        due("24 fifteen", 15, x.count(2));
        due("24 all sit", 63, x.count(5));
        due("14 each for himself: 8, 7, 6, 5, 4, 3, less than by the first: 8, 7, 6, 5, 4, 3", 33, x.tables(4, -1));
        due("14 the first row", 0, x.tables(4, 5));
        due("17 all sets", 64, x.sets(4, 0));
        due("17 in some", 63, x.sets(4, 2));
        due("19 half: two of five", 10, x.power(5, 3));
        due("20 neighbours", 3, x.couples(-1));
        due("20 neighbours", 4, x.couples(5));
        due("15 by turns", 60, x.last(4));
        due("8 the last one eats the last", 1, x.eat(5, 4, false));
        due("8 filled", 50 + 3 - 1, x.person(5, 4));
    }

    private static void communeFaults() {
        String a = "person a plain hungry 1 taste 1 votes 1;";
        String b = "person b plain hungry 1 taste 1 votes 1;";
        String d = "dish d bites 1 salt 1 cost 1;";
        fault("store", 1, 5);
        fault("store ", 1, 6);
        fault("  store 5", 1, 9);
        fault(";", 1, 0);
        fault("eat", 1, 0);
        fault("Person", 1, 0);
        fault("personperson", 1, 0);
        fault("person abcdefghi plain", 1, 7);
        fault("person a1", 1, 8);
        fault("person 1", 1, 7);
        fault("person taste", 1, 7);
        fault("person loved", 1, 7);
        fault("person and", 1, 7);
        fault("person fast", 1, 7);
        fault("person a plain taste", 1, 15);
        fault("person a plain hungry x", 1, 22);
        fault("person a plain hungry 00010 taste", 1, 22);
        fault("person a plain hungry 10 taste", 4, 22);
        fault("person a plain hungry 9 taste 10", 4, 30);
        fault("person a plain hungry 9 taste 9 votes 100", 4, 38);
        fault("person a plain hungry 9 taste 9 votes 99 dish", 1, 41);
        fault(a + a, 3, 40 + 7);
        fault(d + "person d", 3, 29 + 7);
        fault(a + "dish a", 3, 40 + 5);
        fault("dish d bites 21", 4, 13);
        fault("dish d bites 20 salt 10", 4, 21);
        fault("dish d bites 20 salt 9 cost 21", 4, 28);
        fault("dish d bites 20 salt 9 cost 20 + ", 1, 31);
        fault(a + b + "cup a c", 2, 86);
        fault(a + b + "cup c a", 2, 84);
        fault(a + b + d + "cup d a", 2, 109 + 4);
        fault(a + b + "cup a a", 3, 86);
        fault(a + b + "cup a b;cup a b", 3, 94);
        fault(a + b + "cup a b;cup b a", 3, 94);
        fault(a + b + "cup a cup", 1, 86);
        fault(a + b + "cup a b c", 1, 88);
        fault(a + "sick b", 2, 45);
        fault(a + "sick to", 1, 45);
        fault(a + "sick a from 100 to 3", 4, 52);
        fault(a + "sick a from 5 to 4", 4, 57);
        fault(a + "sick a from 5 to 100", 4, 57);
        fault(a + "sick a from 5 from 6", 1, 54);
        fault(a + "sick a from 5 to 5;sick a from", 3, 40 + 19 + 5);
        fault("store 1000;", 4, 6);
        fault("store 999;store 1;", 3, 10);
        fault("rest 8;", 4, 5);
        fault("rest 7;rest 7;", 3, 7);
        fault("share 1;share 1;", 3, 8);
        fault("store 1 ;rest 1;store", 3, 16);
        String six = "";
        for (int i = 0; i < 6; i++) {
            six += a.replace(" a ", " " + (char) ('a' + i) + " ");
        }
        fault(six, 0, 0);
        fault(six + "person", 5, 240);
        fault(six + "persons", 1, 240);
        String five = "";
        for (int i = 0; i < 5; i++) {
            five += d.replace(" d ", " " + (char) ('a' + i) + " ");
        }
        fault(five, 0, 0);
        fault(five + "dish a", 5, 29 * 5);
        fault("store 5;?", 1, 8);
        fault("store 5;\n{", 1, 9);
    }

    private static void share(String law, int slow, int quick) {
        TableTurns x = told(ONE + "share " + law + ";");
        due("3 slow share " + law, slow, x.would(0, 0, true, 0));
        due("3 fast share " + law, quick, x.would(0, 0, false, 0));
    }

    /** By ONE: mouthful is 7, off is 2, seats is 0, own is 1. */
    private static void law() {
        share("mouthful", 7, 7);
        share("off", 2, 2);
        share("10+seats", 10, 10);
        share("slowly", 1, 0);
        share("own", 1, 1);
        share("0007", 7, 7);
        share("9999", 99, 99);
        share("0-1", 0, 0);
        share("20-5-3", 12, 12);
        share("2+3*4", 14, 14);
        share("(2+3)*4", 20, 20);
        share("2*3+4", 10, 10);
        share("2*3*4-1", 23, 23);
        share("not 0", 1, 1);
        share("not 5+3", 3, 3);
        share("not 5*9+not 0", 1, 1);
        share("not not 5", 1, 1);
        share("not(3<2)*7", 7, 7);
        share("1<2", 1, 1);
        share("2<2", 0, 0);
        share("3<2+2", 1, 1);
        share("2+2=4", 1, 1);
        share("4=5", 0, 0);
        share("(4=4)=1", 1, 1);
        share("5 and 7", 1, 1);
        share("5 and 0", 0, 0);
        share("0 or 7", 1, 1);
        share("0 or 0", 0, 0);
        share("1 or 1 and 0", 0, 0);
        share("0 and 0 or 1", 1, 1);
        share("1 or (1 and 0)", 1, 1);
        share("1=1 and 2<3", 1, 1);
        share("((((7))))", 7, 7);
        share("not not not not 7", 1, 1);
        share("not(not(7))+((((5))))", 6, 6);
        share("slowly*30+not slowly*20", 30, 20);
        share("9999*9999*9999", 0, 0);
        share("9999*9999*9999*9999", 99, 99);
        share("8192*8192*32+5", 0, 0);
        share("8192*8192*64+5", 5, 5);
        share("0-(8192*8192*32)-1+8192*8192*32+9", 8, 8);
        share("2\n+ 2", 4, 4);
        share("1<2 and 3<4 or 5=6", 1, 1);
        share("1+1<2*2 and 1", 1, 1);
        // The stack is at its deepest: a joint of each strength waits on each level.
        share("1 and 1<1+1*(1 and 1<1+1*(1 and 1<1+1*(1 and 1<1+1*(1 and 1<1+1*1))))", 1, 1);
    }

    private static void lawFault(String law, int kind, int place) {
        due("3 fault of share " + law, kind + 16 * (6 + place), commune(new TableTurns(), "share " + law));
    }

    private static void lawFaults() {
        lawFault(";", 1, 0);
        lawFault("", 1, 0);
        lawFault("1", 1, 1);
        lawFault("1 1;", 1, 2);
        lawFault("+1;", 1, 0);
        lawFault("1+;", 1, 2);
        lawFault("1+*2;", 1, 2);
        lawFault("1<2<3;", 1, 3);
        lawFault("1<2=3;", 1, 3);
        lawFault("1<2+4*5=3;", 1, 7);
        lawFault("(1<2)<3;", 0, -6);
        lawFault("1<2 and 2<3;", 0, -6);
        lawFault("1);", 1, 1);
        lawFault("(1;", 1, 2);
        lawFault("();", 1, 1);
        lawFault("(1));", 1, 3);
        lawFault("salt;", 1, 0);
        lawFault("ann;", 1, 0);
        lawFault("1 not 2;", 1, 2);
        lawFault("not;", 1, 3);
        lawFault("not and;", 1, 4);
        lawFault("12345;", 1, 0);
        lawFault("mouthfuls;", 1, 0);
        lawFault("1 mouthful;", 1, 2);
        lawFault("((((1))));", 0, -6);
        lawFault("(((((1)))));", 5, 5);
        lawFault("((((((1", 5, 5);
        lawFault("(((((not 1", 5, 5);
        lawFault("(((((own", 5, 5);
        lawFault("(((((salt", 1, 5);
        lawFault("((((()", 1, 5);
        lawFault("(((((", 1, 5);
        lawFault("not not not not 1;", 0, -6);
        lawFault("not not not not not 1;", 5, 20);
        lawFault("not not not not not not", 5, 20);
        lawFault("not(not(not 1+not 1)+not 1);", 5, 12);
        lawFault("not not not not 1+not not not not 1;", 0, -6);
        lawFault("((((1))))+((((1))))*((((1))));", 0, -6);
    }

    private static void weeks() {
        TableTurns x = told(BASE);
        due("4 weeks", 0, weeks(x, "eat ann soup slow;none;abroad ben ham;eat cat ham fast;"));
        due("4 lines", 4, x.count(8));
        due("4 none", 0, weeks(x, ""));
        due("4 no lines", 0, x.count(8));
        due("4 forty", 0, weeks(x, times(40, "none;")));
        due("4 forty lines", 40, x.count(8));
        due("4 forty-one", 16 * 200 + 5, weeks(x, times(41, "none;")));
        due("4 the fault leaves them", 40, x.count(8));
        due("4 the tape is taken", 0, x.count(11));
        due("4 the 41st can't stand", 16 * 200 + 1, weeks(x, times(40, "none;") + "share"));
        due("4 an eat too many", 16 * 200 + 5, weeks(x, times(40, "none;") + "eat x"));
        due("4 no such person", 16 * 4 + 2, weeks(x, "eat zoe soup slow;"));
        due("4 a dish is no person", 16 * 4 + 2, weeks(x, "eat ham soup slow;"));
        due("4 a person is no dish", 16 * 8 + 2, weeks(x, "eat ann ben slow;"));
        due("4 abroad by nobody", 16 * 7 + 2, weeks(x, "abroad zoe soup;"));
        due("4 abroad of nothing", 16 * 11 + 2, weeks(x, "abroad ann pie;"));
        due("4 abroad has no how", 16 * 15 + 1, weeks(x, "abroad ann ham slow;"));
        due("4 no how", 16 * 11 + 1, weeks(x, "eat ann ham;"));
        due("4 another how", 16 * 12 + 1, weeks(x, "eat ann ham quick;"));
        due("4 reserved", 16 * 4 + 1, weeks(x, "eat none ham slow;"));
        due("4 number", 16 * 8 + 1, weeks(x, "eat ann 1 slow;"));
        due("4 cut off", 16 * 16 + 1, weeks(x, "eat ann ham slow"));
        due("4 first word", 1, weeks(x, "person"));
        due("4 none and more", 16 * 5 + 1, weeks(x, "none none;"));
        due("4 still forty", 40, x.count(8));
        due("4 by the people told", 16 * 4 + 2, weeks(new TableTurns(), "eat ann soup slow;"));
    }

    private static void personAndDish() {
        TableTurns x = told(BASE);
        int[][] people = {{0, 4, 3, 3, 50, 1, -1, 0}, {1, 6, 7, 2, 50, 1, -1, 0}, {2, 2, 5, 2, 50, 1, -1, 0}, {3, 5, 0, 1, 50, 1, -1, 0}};
        for (int i = 0; i < 4; i++) {
            for (int what = 0; what < 8; what++) {
                due("5 person " + i + " " + what, people[i][what], x.person(i, what));
            }
        }
        int[][] dishes = {{9, 4, 3}, {14, 8, 6}};
        for (int i = 0; i < 2; i++) {
            for (int what = 0; what < 3; what++) {
                due("6 dish " + i + " " + what, dishes[i][what], x.dish(i, what));
            }
        }
        int[] others = {-1, 8, Integer.MIN_VALUE, Integer.MAX_VALUE};
        for (int other : others) {
            due("5 what " + other, -1, x.person(0, other));
            due("5 person " + other, -1, x.person(other, 0));
            due("6 what " + other, -1, x.dish(0, other));
            due("6 dish " + other, -1, x.dish(other, 0));
        }
        due("5 nobody", -1, x.person(4, 0));
        due("6 no dish", -1, x.dish(2, 0));
        due("6 what 3", -1, x.dish(0, 3));
        int[] sits = {1, 1, 0, 0, 0, 1};
        for (int day = 0; day < sits.length; day++) {
            due("5 sits on " + day, sits[day], x.person(3, 5));
            x.fast();
        }
        due("5 hungry never", 0, x.person(1, 7));
        due("5 full", 50 - 36, x.person(1, 4));
        x.fast();
        x.fast();
        due("5 full of the last", 2, x.person(1, 4));
        x.fast();
        due("5 hungry once", 1, x.person(1, 7));
        due("5 empty", 0, x.person(1, 4));
        x.fast();
        due("5 hungry twice", 2, x.person(1, 7));
        due("5 not another one", 0, x.person(0, 7));
    }

    private static void would() {
        TableTurns x = told(BASE);
        // soup is off by 1, 3, 1, 4; ham by 5, 1, 3, 8
        int[][] soup = {{8, 7, 6, 5}, {5, 12, 5, 4}, {7, 8, 8, 8}, {1, 2, 3, 5}};
        int[][] ham = {{9, 8, 7, 6}, {12, 26, 12, 11}, {10, 11, 11, 11}, {2, 3, 4, 6}};
        for (int eater = 0; eater < 4; eater++) {
            for (int person = 0; person < 4; person++) {
                due("7 soup " + eater + " " + person, soup[eater][person], x.would(eater, 0, true, person));
                due("7 ham " + eater + " " + person, ham[eater][person], x.would(eater, 1, false, person));
            }
        }
        due("7 nothing happens", 0, x.count(3));
        due("7 nobody eats", -1, x.would(4, 0, true, 0));
        due("7 no eater", -1, x.would(-1, 0, true, 0));
        due("7 no dish", -1, x.would(0, 2, true, 0));
        due("7 no dish", -1, x.would(0, -1, true, 0));
        due("7 of nobody", -1, x.would(0, 0, true, 4));
        due("7 of nobody", -1, x.would(0, 0, true, -1));
        x.eat(0, 0, true);
        due("7 ill", 0, x.would(0, 0, true, 2));
        x.fast();
        due("7 sick eater", -1, x.would(3, 0, true, 0));
        due("7 sick one is not filled", 0, x.would(1, 0, true, 3));
        due("7 ill on the second day", 0, x.would(0, 0, true, 1));
        x.fast();
        due("7 well again", 7, x.would(0, 0, true, 1));
        x = told(PEOPLE + DISHES + "store 5;");
        due("7 too dear for the greedy one", -1, x.would(1, 0, true, 0));
        due("7 enough", 8, x.would(0, 0, true, 0));
        due("7 too dear", -1, x.would(0, 1, true, 0));
        x = told(PEOPLE + DISHES + "store 999;share 9000;");
        due("7 above", 99, x.would(0, 0, true, 1));
        due("7 greedy above", 198, x.would(1, 0, true, 1));
        due("7 loved above", 100, x.would(2, 0, true, 1));
        due("7 old above", 98, x.would(3, 0, true, 1));
        x = told(PEOPLE + DISHES + "store 999;share 0-5;");
        due("7 below", 0, x.would(0, 0, true, 1));
        due("7 loved below", 1, x.would(2, 0, true, 1));
        due("7 loved himself", 0, x.would(2, 0, true, 2));
        due("7 old below", 0, x.would(3, 0, true, 1));
    }

    private static void eat() {
        TableTurns x = told(BASE);
        due("8 eat", 1, x.eat(0, 0, true));
        int[] full = {54, 51, 54, 50};
        for (int i = 0; i < 4; i++) {
            due("8 full " + i, full[i], x.person(i, 4));
        }
        due("8 day", 1, x.count(3));
        due("8 store", 37, x.count(4));
        due("8 ate", 0, x.person(0, 6));
        due("8 ill", 0, x.eat(0, 0, true));
        due("8 ill costs", 34, x.count(4));
        due("8 ill is a meal", 1, x.person(0, 6));
        due("8 ill fills nobody", 45, x.person(1, 4));
        due("8 ill in all", 1, x.count(7));
        due("8 sick", -1, x.eat(3, 0, true));
        due("8 nobody", -1, x.eat(4, 0, true));
        due("8 nobody", -1, x.eat(-1, 0, true));
        due("8 nothing", -1, x.eat(0, 2, true));
        due("8 nothing", -1, x.eat(0, -1, true));
        due("8 no day by these", 2, x.count(3));
        due("8 nothing to undo by these", 2, x.count(10));
        due("8 the greedy", 1, x.eat(1, 1, false));
        due("8 the greedy cost", 22, x.count(4));
        due("8 the greedy himself", 45 + 26 - 6, x.person(1, 4));
        due("8 the sick are not filled", 45 - 5, x.person(3, 4));
    }

    private static void eatEdges() {
        TableTurns x = told(ONE + "rest 3;store 5;");
        due("8 first", 1, x.eat(0, 0, true));
        x.fast();
        x.fast();
        due("8 three days ago", 0, x.eat(0, 0, true));
        x.fast();
        x.fast();
        x.fast();
        due("8 four days ago", 1, x.eat(0, 0, true));
        x = told(ONE + "rest 0;");
        due("8 no rest", 1, x.eat(0, 0, true));
        due("8 no rest again", 1, x.eat(0, 0, true));
        due("8 costs nothing", 0, x.count(4));
        x = told(ONE.replace("cost 0", "cost 6") + "store 12;rest 0;");
        due("8 can pay", 1, x.eat(0, 0, true));
        due("8 can just pay", 1, x.eat(0, 0, true));
        due("8 can't pay", -1, x.eat(0, 0, true));
        x = told(ONE + "share 9000;");
        x.eat(0, 0, true);
        due("8 full by 99 at most", 99, x.person(0, 4));
        x = told("person a plain hungry 9 taste 0 votes 0;person b plain hungry 9 taste 0 votes 0;dish d bites 0 salt 0 cost 0;rest 7;");
        x.fast();
        x.fast();
        x.fast();
        x.fast();
        x.fast();
        due("8 five left", 5, x.person(0, 4));
        due("8 nobody hungry yet", 0, x.count(6));
        x.eat(0, 0, true);
        due("8 both hungry", 2, x.count(6));
        due("8 empty", 0, x.count(12));
        x = told("person a plain hungry 5 taste 0 votes 0;");
        for (int i = 0; i < 10; i++) {
            x.fast();
        }
        due("8 just enough is not hungry", 0, x.count(6));
        due("8 just empty", 0, x.person(0, 4));
        x.fast();
        due("8 hungry now", 1, x.person(0, 7));
    }

    private static void abroad() {
        TableTurns x = told(BASE);
        due("9 plain", 59, x.abroad(0, 1));
        due("9 greedy, once only", 63, x.abroad(1, 1));
        due("9 loved", 58, x.abroad(2, 0));
        due("9 old", 55, x.abroad(3, 0));
        due("9 the others not", 59 + 63 + 58 + 55, x.count(12));
        due("9 store", 40, x.count(4));
        due("9 day", 0, x.count(3));
        due("9 no meal", -1, x.person(0, 6));
        due("9 again", 68, x.abroad(0, 1));
        due("9 again", 77, x.abroad(0, 1));
        due("9 again", 86, x.abroad(0, 1));
        due("9 again", 95, x.abroad(0, 1));
        due("9 at most", 99, x.abroad(0, 1));
        due("9 not ill", 1, x.eat(0, 0, true));
        x.fast();
        due("9 sick", 0, x.person(3, 5));
        due("9 sick eats abroad, filled by ann's soup ahead", 55 + 5 - 10 + 5, x.abroad(3, 0));
        due("9 nobody", -1, x.abroad(4, 0));
        due("9 nobody", -1, x.abroad(-1, 0));
        due("9 nothing", -1, x.abroad(0, 2));
        due("9 nothing", -1, x.abroad(0, -1));
        x = told(ONE + "share slowly*10+own*3+seats;");
        due("9 fast and own", 53, x.abroad(0, 0));
        x = told(ONE + "share 0-9;");
        due("9 below", 50, x.abroad(0, 0));
        x = told(BASE.replace("store 40", "share 9000"));
        due("9 above", 99, x.abroad(1, 0));
    }

    private static void fast() {
        TableTurns x = told(BASE);
        due("10 fast", 1, x.fast());
        due("10 fast", 2, x.fast());
        int[] full = {42, 38, 46, 40};
        for (int i = 0; i < 4; i++) {
            due("10 full " + i, full[i], x.person(i, 4));
        }
        due("10 store", 40, x.count(4));
        due("10 no meal", -1, x.person(0, 6));
        due("10 undone", true, x.undo());
        due("10 day", 1, x.count(3));
    }

    private static void undo() {
        TableTurns x = told(BASE);
        due("11 nothing", false, x.undo());
        x.eat(1, 1, true);
        x.abroad(0, 1);
        x.eat(1, 0, true);
        x.fast();
        due("11 four", 4, x.count(10));
        due("11 ill ahead", 1, x.count(7));
        due("11 fast", true, x.undo());
        due("11 day", 2, x.count(3));
        due("11 meal", true, x.undo());
        due("11 ill undone", 0, x.count(7));
        due("11 store", 28, x.count(4));
        due("11 ate", 0, x.person(1, 6));
        due("11 day", 1, x.count(3));
        int full = x.person(0, 4);
        due("11 abroad", true, x.undo());
        due("11 less by what he ate", full - 9, x.person(0, 4));
        due("11 first", true, x.undo());
        due("11 all full", 200, x.count(12));
        due("11 nobody ate", -1, x.person(1, 6));
        due("11 the store", 40, x.count(4));
        due("11 no more", false, x.undo());
        for (int i = 0; i < 20; i++) {
            x.fast();
        }
        due("11 sixteen", 16, x.count(10));
        int hungry = x.count(6);
        for (int i = 0; i < 16; i++) {
            due("11 one of sixteen", true, x.undo());
            due("11 left", 15 - i, x.count(10));
            due("11 back on", 19 - i, x.count(3));
        }
        due("11 not more than sixteen", false, x.undo());
        due("11 day four", 4, x.count(3));
        due("11 some were hungry", true, hungry > 0);
        due("11 hungry undone", 0, x.count(6));
        due("11 hungry undone of one", 0, x.person(1, 7));
        x.tell(0, 10);
        weeks(x, "none;");
        x.fast();
        x.tell(1, 10);
        due("11 again", true, x.undo());
        due("11 what is told stays", 2, x.count(9));
        due("11 weeks stay", 1, x.count(8));
        x.eat(0, 0, true);
        commune(x, BASE);
        due("11 not over a commune", false, x.undo());
    }

    private static void judged() {
        TableTurns x = told(BASE);
        due("12 no weeks", -1, x.judged(0));
        due("12 no weeks", 40, x.judged(3));
        x.eat(0, 0, true);
        weeks(x, "eat ann soup slow;eat ann soup slow;eat dan ham fast;none;abroad ben ham;eat ben ham slow;eat ben ham slow;eat ben ham slow;eat cat soup fast;");
        due("12 can't be", 2, x.judged(0));
        due("12 hungry", -1, x.judged(1));
        due("12 ill", 1, x.judged(2));
        due("12 store", 7, x.judged(3));
        due("12 others", -2, x.judged(4));
        due("12 others", -2, x.judged(-1));
        due("12 nothing happens", 1, x.count(3));
        due("12 nothing is eaten", 37, x.count(4));
        due("12 ill in all", 0, x.count(7));
        weeks(x, times(9, "none;"));
        due("12 ben is hungry", 8, x.judged(1));
        weeks(x, "abroad ben ham;" + times(12, "none;"));
        due("12 ben is hungry later", 11, x.judged(1));
        due("12 all can be", -1, x.judged(0));
        due("12 nobody ill", -1, x.judged(2));
        weeks(x, "eat ben ham fast;eat ben ham fast;eat ben ham fast;eat ben ham fast;none;");
        due("12 the store is empty", 3, x.judged(0));
        due("12 store", 4, x.judged(3));
        due("12 ill first", 1, x.judged(2));
        x = told("person a plain hungry 9 taste 0 votes 0;dish d bites 0 salt 0 cost 0;");
        weeks(x, times(6, "eat a d slow;"));
        due("12 ill and hungry", 5, x.judged(1));
        due("12 ill and hungry", 1, x.judged(2));
        x = told("person a plain hungry 9 taste 0 votes 0;dish d bites 0 salt 0 cost 0;share slowly*9;");
        weeks(x, "eat a d slow;" + times(6, "none;"));
        due("12 slowly", 6, x.judged(1));
        weeks(x, "eat a d fast;" + times(6, "none;"));
        due("12 fast", 5, x.judged(1));
    }

    private static void plan() {
        TableTurns x = told(BASE);
        due("13 no days", 0, x.plan(0, 0));
        due("13 no days", -1, x.plan(0, 1));
        due("13 fasts", 0, x.plan(3, 0));
        due("13 fasts", 60, x.plan(3, 1));
        due("13 days", -2, x.plan(4, 0));
        due("13 days", -2, x.plan(-1, 0));
        due("13 what", -2, x.plan(1, 2));
        due("13 what", -2, x.plan(1, -1));
        due("13 what", -2, x.plan(0, 2));
        String hungry = "person a plain hungry 9 taste 0 votes 0;person b plain hungry 9 taste 0 votes 0;";
        x = told(hungry + "dish big bites 20 salt 0 cost 5;dish small bites 10 salt 0 cost 2;store 9;");
        for (int i = 0; i < 5; i++) {
            x.fast();
        }
        due("13 five left each", 10, x.count(12));
        due("13 one day", 2, x.plan(1, 0));
        due("13 the small one", 2, x.plan(1, 1));
        // two days: small, then small by the other one: 5+10-9=6, 5+9-9=5; both again fed by 10 and 9
        due("13 two days", 4, x.plan(2, 0));
        due("13 two days", 2, x.plan(2, 1));
        // three days: a and b ate, rest 2, so nobody can eat the third day; big 20 and 19: 16, 15, then 7, 6 fasting, then b: small
        due("13 three days", 7, x.plan(3, 0));
        due("13 three days", 0, x.plan(3, 1));
        due("13 nothing happens", 5, x.count(3));
        x = told(hungry + "dish big bites 20 salt 0 cost 5;store 4;");
        for (int i = 0; i < 5; i++) {
            x.fast();
        }
        due("13 none", -2, x.plan(1, 0));
        due("13 none", -2, x.plan(1, 1));
        due("13 no days at all", 0, x.plan(0, 0));
        x = told(hungry + "dish big bites 20 salt 0 cost 5;store 9;sick b from 5 to 9;");
        for (int i = 0; i < 5; i++) {
            x.fast();
        }
        due("13 the sick one can't be fed", -2, x.plan(1, 0));
        x = told("person a plain hungry 5 taste 0 votes 0;dish d bites 2 salt 0 cost 1;store 3;");
        for (int i = 0; i < 9; i++) {
            x.fast();
        }
        due("13 just enough", 60, x.plan(1, 1));
        due("13 not for two days", -2, x.plan(2, 1));
        x = told("person a plain hungry 5 taste 0 votes 0;dish d bites 5 salt 0 cost 1;store 3;");
        for (int i = 0; i < 10; i++) {
            x.fast();
        }
        due("13 filled by just enough", 1, x.plan(1, 0));
        due("13 by a", 0, x.plan(1, 1));
    }

    private static void planTies() {
        TableTurns x = told(ONE);
        due("13 a meal for nothing is ahead of a fast", 0, x.plan(1, 1));
        due("13 a meal for nothing, three days", 0, x.plan(3, 1));
        String two = "person a greedy hungry 9 taste 0 votes 0;person b plain hungry 9 taste 0 votes 0;";
        x = told(two + "dish x bites 10 salt 0 cost 3;dish y bites 10 salt 0 cost 2;dish z bites 10 salt 0 cost 2;store 20;");
        for (int i = 0; i < 5; i++) {
            x.fast();
        }
        due("13 the greedy one is dearer", 2, x.plan(1, 0));
        due("13 b eats y slowly", 12, x.plan(1, 1));
        x = told(two + "dish x bites 10 salt 0 cost 3;store 20;share not slowly*20;");
        for (int i = 0; i < 5; i++) {
            x.fast();
        }
        due("13 fast alone feeds", 11, x.plan(1, 1));
        x.eat(1, 0, false);
        due("13 who is ill feeds nobody", 0, x.plan(1, 0));
        x.fast();
        due("13 b would be ill", 6, x.plan(1, 0));
        due("13 so a eats", 1, x.plan(1, 1));
    }

    private static void tables() {
        TableTurns x = told(BASE);
        due("14 shares", 36, x.tables(0, -1));
        int[] row = {0, 1, 2, 2};
        for (int i = 0; i < 4; i++) {
            due("14 table of " + i, row[i], x.tables(0, i));
        }
        due("14 dish", -2, x.tables(2, -1));
        due("14 dish", -2, x.tables(-1, -1));
        due("14 person", -2, x.tables(0, 4));
        due("14 person", -2, x.tables(0, -2));
        x.eat(2, 0, true);
        due("14 ill does not count", 36, x.tables(0, -1));
        x.fast();
        due("14 dan is sick: 8 and 12 and 8", 28, x.tables(0, -1));
        due("14 he has none", -1, x.tables(0, 3));
        due("14 cat by herself: by ann she has 2 less", 2, x.tables(0, 2));
        x = told(PEOPLE + DISHES + "share 5;");
        due("14 ben by himself, the others by cat", 10 + 6 + 5 + 6, x.tables(0, -1));
        due("14 ann", 0, x.tables(0, 0));
        due("14 ben", 1, x.tables(0, 1));
        due("14 cat", 0, x.tables(0, 2));
        x = told("person a plain hungry 0 taste 0 votes 0;person b plain hungry 0 taste 0 votes 0;person c plain hungry 0 taste 0 votes 0;dish d bites 5 salt 0 cost 9;share 5;");
        due("14 all equal, without a store", 15, x.tables(0, -1));
        due("14 the first row", 0, x.tables(0, 0) + x.tables(0, 1) + x.tables(0, 2));
        x = told("person a plain hungry 0 taste 0 votes 0;person b plain hungry 0 taste 0 votes 0;person c plain hungry 0 taste 0 votes 0;dish d bites 5 salt 0 cost 9;share 10-9*(seats=1);");
        due("14 a and c, b", 30, x.tables(0, -1));
        due("14 a", 0, x.tables(0, 0));
        due("14 b", 1, x.tables(0, 1));
        due("14 c: seats as at the long table", 0, x.tables(0, 2));
        x = told("person a plain hungry 0 taste 0 votes 0;dish d bites 5 salt 0 cost 9;sick a from 0 to 9;");
        due("14 nobody sits", 0, x.tables(0, -1));
        due("14 nobody has one", -1, x.tables(0, 0));
        x = told("person a plain hungry 0 taste 0 votes 0;dish d bites 5 salt 0 cost 9;share slowly*4;");
        due("14 slowly", 4, x.tables(0, -1));
        x = told("person a plain hungry 0 taste 0 votes 0;person b plain hungry 0 taste 0 votes 0;person c plain hungry 0 taste 0 votes 0;dish d bites 5 salt 0 cost 9;sick b from 0 to 9;");
        due("14 one between is sick: 5 and 5, not 5 and 3", 10, x.tables(0, -1));
        due("14 one between is sick", 1, x.tables(0, 2));
        x = told("person a plain hungry 0 taste 0 votes 0;person b plain hungry 0 taste 0 votes 0;dish d bites 0 salt 0 cost 9;");
        due("14 nothing to eat", 0, x.tables(0, -1));
        due("14 nothing to eat", 0, x.tables(0, 1));
    }

    private static void last() {
        TableTurns x = told(BASE);
        due("15 the store", 10, x.last(0));
        due("15 nothing", -1, x.last(2));
        due("15 nothing", -1, x.last(-1));
        due("15 nothing happens", 0, x.count(3));
        x = told(ONE);
        due("15 rest: a eats, then can't", 1, x.last(0));
        x = told(ONE + "rest 0;");
        due("15 sixty at most", 60, x.last(0));
        x = told("person a plain hungry 5 taste 0 votes 0;dish d bites 0 salt 0 cost 0;rest 0;");
        due("15 ten days, hungry behind the eleventh", 10, x.last(0));
        x.fast();
        due("15 nine", 9, x.last(0));
        x = told("person a plain hungry 0 taste 0 votes 0;person b plain hungry 0 taste 0 votes 0;dish d bites 5 salt 0 cost 1;rest 1;store 9;");
        due("15 by turns", 9, x.last(0));
        x.eat(0, 0, true);
        due("15 b, a, ..", 8, x.last(0));
        x = told("person a plain hungry 0 taste 0 votes 0;person b greedy hungry 0 taste 0 votes 0;dish d bites 5 salt 0 cost 1;rest 0;store 9;");
        due("15 a 1, b 2: 1+2+1+2+1+2 is 9", 6, x.last(0));
        x = told("person a plain hungry 0 taste 0 votes 0;person b greedy hungry 0 taste 0 votes 0;dish d bites 5 salt 0 cost 1;rest 0;store 4;");
        due("15 a, b, a, and nothing", 3, x.last(0));
        x = told("person a greedy hungry 0 taste 0 votes 0;person b plain hungry 0 taste 0 votes 0;dish d bites 5 salt 0 cost 1;rest 0;store 2;");
        due("15 a is the first, by 2", 1, x.last(0));
        x = told("person a plain hungry 0 taste 0 votes 0;person b plain hungry 0 taste 0 votes 0;dish d bites 5 salt 0 cost 1;rest 0;store 9;sick a from 0 to 1;sick b from 3 to 4;");
        due("15 who can", 9, x.last(0));
        x = told("person a plain hungry 0 taste 0 votes 0;dish d bites 5 salt 0 cost 1;rest 0;store 9;sick a from 3 to 4;");
        due("15 sick", 3, x.last(0));
        x = told("dish d bites 5 salt 0 cost 1;");
        due("15 nobody", 0, x.last(0));
        // by turns: b's own is filled more by seats; were it always a, b would be hungry
        x = told("person a plain hungry 9 taste 0 votes 0;person b plain hungry 9 taste 0 votes 0;dish d bites 0 salt 0 cost 0;rest 0;share own*18;");
        due("15 round and round", 60, x.last(0));
        x = told("person a plain hungry 9 taste 0 votes 0;person b plain hungry 9 taste 0 votes 0;person c plain hungry 9 taste 0 votes 0;dish d bites 0 salt 0 cost 0;rest 0;share own*27*slowly;");
        due("15 slowly, round and round", 60, x.last(0));
    }

    private static void tellAndSets() {
        TableTurns x = told(BASE);
        due("16 nobody", false, x.tell(4, 5));
        due("16 nobody", false, x.tell(-1, 5));
        due("16 full", false, x.tell(0, 100));
        due("16 full", false, x.tell(0, -1));
        due("16 nothing is told", 0, x.count(9));
        due("16 the least", true, x.tell(0, 0));
        due("16 the most", true, x.tell(0, 99));
        due("16 one is told", 1, x.count(9));
        x = told(BASE);
        due("17 all sets", 16, x.sets(1, 0));
        due("17 in all", 0, x.sets(1, 1));
        due("17 in some", 15, x.sets(1, 2));
        due("17 ask the first", 0, x.sets(1, 3));
        due("16 tell", true, x.tell(0, 64));
        due("17 no set", 0, x.sets(1, 0));
        for (int what = 1; what <= 3; what++) {
            due("17 no set, " + what, -1, x.sets(1, what));
        }
        due("16 in its place", true, x.tell(0, 59));
        due("16 another one", true, x.tell(2, 50));
        due("16 two", 2, x.count(9));
        due("17 four", 4, x.sets(1, 0));
        due("17 in all", 1, x.sets(1, 1));
        due("17 in some", 11, x.sets(1, 2));
        due("17 ask ben", 1, x.sets(1, 3));
        due("17 of soup ann would be 58", 0, x.sets(0, 0));
        x.tell(1, 63);
        x.tell(3, 56);
        due("17 one set", 1, x.sets(1, 0));
        due("17 it", 11, x.sets(1, 1));
        due("17 it", 11, x.sets(1, 2));
        due("17 nobody to ask", -1, x.sets(1, 3));
        due("17 dish", -1, x.sets(2, 0));
        due("17 dish", -1, x.sets(-1, 0));
        due("17 what", -1, x.sets(1, 4));
        due("17 what", -1, x.sets(1, -1));
        x = told(BASE.replace("store 40", "share 0"));
        due("17 nothing shows", 16, x.sets(1, 0));
        due("17 nobody parts them", -1, x.sets(1, 3));
        x.tell(0, 50);
        due("17 told of one by whom nothing shows", 16, x.sets(1, 0));
        x = told(BASE);
        for (int i = 0; i < 6; i++) {
            x.abroad(1, 1);
        }
        due("17 he is full", 99, x.person(1, 4));
        x.tell(1, 99);
        due("17 at most 99", 16, x.sets(1, 0));
        x.tell(0, 50);
        due("17 half", 8, x.sets(1, 0));
        due("17 ask cat: ann is told, ben too", 2, x.sets(1, 3));
        x.fast();
        due("17 as full as now", 0, x.sets(1, 0));
        x = told("person a plain hungry 0 taste 9 votes 0;person b plain hungry 0 taste 0 votes 0;dish d bites 8 salt 0 cost 0;");
        due("17 a shows nothing, so b", 1, x.sets(0, 3));
        x = told("dish d bites 8 salt 0 cost 0;");
        due("17 the empty set of nobody", 1, x.sets(0, 0));
        due("17 nobody in it", 0, x.sets(0, 1));
        due("17 nobody in it", 0, x.sets(0, 2));
        due("17 nobody to ask", -1, x.sets(0, 3));
        x = told("person a plain hungry 0 taste 0 votes 0;dish d bites 8 salt 0 cost 0;sick a from 0 to 9;");
        due("17 the sick eat abroad", 2, x.sets(0, 0));
    }

    private static void stop() {
        TableTurns x = told(BASE);
        due("18 nobody is sick", 0, x.stop(3));
        due("18 nobody", -1, x.stop(4));
        due("18 nobody", -1, x.stop(-1));
        x.fast();
        x.fast();
        due("18 dan is sick", -1, x.stop(3));
        due("18 cat has his cup", -1, x.stop(2));
        due("18 ben: cat", 4, x.stop(1));
        due("18 ann: ben or cat", 2, x.stop(0));
        String six = "";
        for (int i = 0; i < 6; i++) {
            six += "person " + (char) ('a' + i) + " plain hungry 0 taste 0 votes 0;";
        }
        x = told(six + "cup a b;cup b f;cup a c;cup c f;cup a d;cup d f;sick a from 0 to 5;");
        due("18 three ways", 2 + 4 + 8, x.stop(5));
        due("18 alone", 0, x.stop(4));
        x = told(six + "cup a b;cup a c;cup a d;cup b e;cup c e;cup d e;cup e f;sick a from 0 to 5;");
        due("18 the fewest", 16, x.stop(5));
        x = told(six + "cup a b;cup b c;cup c f;cup d f;cup d e;sick a from 0 to 5;sick e from 0 to 0;");
        due("18 two who are sick", 2 + 8, x.stop(5));
        x.fast();
        due("18 one of them is well", 2, x.stop(5));
        x = told(six + "cup a b;cup b c;cup c d;sick a from 0 to 5;sick c from 0 to 0;");
        due("18 a sick one between", -1, x.stop(3));
        due("18 b by both", -1, x.stop(1));
        x = told(six + "cup f e;cup e d;cup d c;cup c b;cup b a;sick f from 0 to 5;");
        due("18 a long row", 2, x.stop(0));
        due("18 a shorter one", 8, x.stop(2));
        x = told(PEOPLE + "cup ann ben;cup ben cat;cup ann dan;cup dan cat;sick ann from 0 to 0;");
        due("18 all who can be", 2 + 8, x.stop(2));
    }

    private static void power() {
        TableTurns x = told(BASE);
        // votes 3, 2, 2, 1
        due("19 ann by 5", 5, x.power(0, 5));
        due("19 ben by 5", 3, x.power(1, 5));
        due("19 dan by 5", 1, x.power(3, 5));
        due("19 by 0", 0, x.power(0, 0));
        due("19 by 1", 1, x.power(0, 1));
        due("19 by 8", 1, x.power(3, 8));
        due("19 by 9", 0, x.power(3, 9));
        due("19 by 999", 0, x.power(0, 999));
        due("19 by 1000", -1, x.power(0, 1000));
        due("19 by -1", -1, x.power(0, -1));
        due("19 nobody", -1, x.power(4, 5));
        due("19 nobody", -1, x.power(-1, 5));
    }

    private static void couples() {
        TableTurns x = told(BASE);
        // tastes 3, 7, 5, 0
        due("20 sum", 5, x.couples(-1));
        int[] row = {3, 2, 1, 0};
        for (int i = 0; i < 4; i++) {
            due("20 other of " + i, row[i], x.couples(i));
        }
        due("20 others", -2, x.couples(4));
        due("20 others", -2, x.couples(-2));
        x.fast();
        x.fast();
        due("20 three: 3, 7, 5", 2, x.couples(-1));
        due("20 ann with cat is ahead", 2, x.couples(0));
        due("20 ben alone", -1, x.couples(1));
        due("20 dan does not sit", -1, x.couples(3));
        String three = "person a plain hungry 0 taste 5 votes 0;person b plain hungry 0 taste 5 votes 0;person c plain hungry 0 taste 5 votes 0;";
        x = told(three);
        due("20 equal", 0, x.couples(-1));
        due("20 the first row", 1, x.couples(0));
        due("20 the first row", 0, x.couples(1));
        due("20 none behind all", -1, x.couples(2));
        x = told(three.replace("a plain hungry 0 taste 5", "a plain hungry 0 taste 0"));
        due("20 a alone", -1, x.couples(0));
        due("20 b", 2, x.couples(1));
        x = told("person a plain hungry 0 taste 5 votes 0;");
        due("20 one", 0, x.couples(-1));
        due("20 one", -1, x.couples(0));
    }

    private static int rest(TableTurns x, int bites, int loss, int what) {
        try {
            return x.rests(bites, loss, what);
        } catch (NoSuchElementException e) {
            return -9;
        }
    }

    private static void rests() {
        TableTurns x = new TableTurns();
        due("21 enough", 1, rest(x, 10, 3, -1));
        due("21 enough", 55, rest(x, 10, 3, 0));
        due("21 behind the last", -9, rest(x, 10, 3, 1));
        due("21 scarce", 3, rest(x, 4, 9, -1));
        due("21 scarce", 13, rest(x, 4, 9, 0));
        due("21 scarce", 22, rest(x, 4, 9, 1));
        due("21 scarce", 31, rest(x, 4, 9, 2));
        due("21 nothing there", 11, rest(x, 0, 9, 0));
        due("21 nothing lost", 55, rest(x, 0, 0, 0));
        due("21 loss 2", 55, rest(x, 0, 2, 0));
        due("21 loss 3: all equal", 25, rest(x, 0, 3, -1));
        due("21 loss 3: the last", 55, rest(x, 0, 3, 24));
        due("21 loss 4", 1, rest(x, 0, 4, -1));
        due("21 loss 4", 11, rest(x, 0, 4, 0));
        due("21 edge", 1, rest(x, 20, 9, -1));
        due("21 bites", -9, rest(x, 21, 0, -1));
        due("21 bites", -9, rest(x, -1, 0, -1));
        due("21 loss", -9, rest(x, 0, 10, -1));
        due("21 loss", -9, rest(x, 0, -1, -1));
        due("21 what", -9, rest(x, 0, 0, -2));
        due("21 what", -9, rest(x, 0, 0, Integer.MAX_VALUE));
    }

    private static void years() {
        TableTurns x = new TableTurns();
        // Draws below 10, one a day, of an empty commune: it has no store to lose.
        due("22 empty", 0, x.years(3, 100, 0));
        due("22 seed", -1, x.years(-1, 1, 0));
        due("22 seed", -1, x.years(10000, 1, 0));
        due("22 days", -1, x.years(0, 0, 0));
        due("22 days", -1, x.years(0, 101, 0));
        due("22 what", -1, x.years(0, 1, -1));
        due("22 what", -1, x.years(0, 1, 3));
        // Seed 0: g is 12345, drawn 0: a frost on the first day.
        commune(x, "store 15;");
        due("22 a frost, half of 15 is 7", 8, x.years(0, 1, 2));
        due("22 all is as ahead", 15, x.count(4));
        due("22 nothing happens", 0, x.count(3));
        commune(x, "store 999;");
        due("22 frosts of a hundred days", frosts(4711, 100), x.years(4711, 100, 2));
        x = told("person a plain hungry 9 taste 0 votes 0;person b plain hungry 5 taste 0 votes 0;");
        // 50 is 9 * 5 + 5, and 5 * 10: a is hungry on days 5 .. 19, b on days 10 .. 19
        due("22 without dishes a fast", 15 + 10, x.years(9, 20, 0));
        x.fast();
        due("22 from now on", 16 + 11, x.years(9, 20, 0));
        due("22 hungry in all stays", 0, x.count(6));
        x = told(ONE + "rest 1;store 5;");
        due("22 one eats every day: ill but on the first", 99, x.years(9, 100, 1));
        x.eat(0, 0, true);
        x.eat(0, 0, true);
        due("22 ill from now on", 100, x.years(9, 100, 1));
        due("22 ill in all stays", 1, x.count(7));
        x = told(ONE.replace("cost 0", "cost 3") + "rest 0;store 7;");
        due("22 no frost by seed 9 on the first day", 1, x.years(9, 2, 2));
        x = told("person a plain hungry 9 taste 0 votes 0;store 999;");
        due("22 one draw a day without dishes", frosts(4711, 100), x.years(4711, 100, 2));
        x = told("dish d bites 0 salt 0 cost 9;store 999;");
        due("22 one draw a day without people", frosts(4711, 100), x.years(4711, 100, 2));
        due("22 the last seed", frosts(9999, 100), x.years(9999, 100, 2));
        drawnMeals();
    }

    private static int frosts(long seed, int days) {
        long g = seed;
        int store = 999;
        for (int day = 0; day < days; day++) {
            g = (g * 1103515245L + 12345L) % 2147483648L;
            store -= g / 65536 % 10 == 0 ? store / 2 : 0;
        }
        return store;
    }

    /** The first draws below 10, 2, 2, 2 by seed 1: 8 0 1 1; 2: 8 1 1 0; 5: 5 1 0 1; 7: 4 0 0 0; 8: 4 0 0 1; 14: 0 0 0 0. */
    private static void drawnMeals() {
        String text = "person a plain hungry 9 taste 0 votes 0;person b greedy hungry 9 taste 0 votes 0;"
            + "dish x bites 0 salt 0 cost 1;dish y bites 0 salt 0 cost 10;share slowly*9;";
        TableTurns x = told(text + "store 100;");
        due("22 a eats y", 90, x.years(1, 1, 2));
        due("22 b eats y", 80, x.years(2, 1, 2));
        due("22 b eats x", 98, x.years(5, 1, 2));
        due("22 a eats x", 99, x.years(7, 1, 2));
        due("22 a eats x in a frost", 49, x.years(14, 1, 2));
        for (int i = 0; i < 5; i++) {
            x.fast();
        }
        due("22 slowly", 0, x.years(7, 1, 0));
        due("22 fast", 2, x.years(8, 1, 0));
        x = told(text + "store 9;");
        due("22 it can't be", 9, x.years(1, 1, 2));
        due("22 so nobody is ill", 0, x.years(1, 1, 1));
    }

    private static void mark() {
        TableTurns x = told(BASE);
        due("23 none such", false, x.mark(4, false));
        due("23 none such", false, x.mark(-1, false));
        due("23 none such", false, x.mark(4, true));
        due("23 nothing on it", false, x.mark(0, true));
        x.eat(0, 0, true);
        x.tell(0, 33);
        weeks(x, "none;none;");
        due("23 laid", true, x.mark(3, false));
        due("23 undo stays", 1, x.count(10));
        x.eat(1, 0, true);
        x.eat(1, 0, true);
        x.tell(1, 33);
        x.tell(0, 34);
        weeks(x, "eat ann soup slow;");
        due("23 back", true, x.mark(3, true));
        due("23 day", 1, x.count(3));
        due("23 store", 37, x.count(4));
        due("23 full", 54 + 51 + 54 + 50, x.count(12));
        due("23 ate", 0, x.person(0, 6));
        due("23 did not eat", -1, x.person(1, 6));
        due("23 weeks", 2, x.count(8));
        due("23 told", 1, x.count(9));
        due("23 nothing can be undone", false, x.undo());
        due("23 ill is not held", 1, x.count(7));
        x.fast();
        due("23 it stays on it", true, x.mark(3, true));
        due("23 day again", 1, x.count(3));
        x.fast();
        due("23 laid over", true, x.mark(3, false));
        x.fast();
        due("23 back", true, x.mark(3, true));
        due("23 the later day", 2, x.count(3));
        due("23 another one", false, x.mark(2, true));
        commune(x, "?");
        due("23 a fault leaves it", true, x.mark(3, true));
        weeks(x, "eat ann ham slow;eat cat soup fast;eat ben soup slow;");
        x.mark(0, false);
        weeks(x, "abroad dan soup;none;abroad cat ham;none;");
        due("23 other weeks", 40, x.judged(3));
        x.mark(0, true);
        due("23 the same weeks", 40 - 6 - 3 - 6, x.judged(3));
        weeks(x, "none;");
        x.mark(0, true);
        due("23 the same weeks again", 25, x.judged(3));
        commune(x, BASE);
        due("23 a commune takes it", false, x.mark(3, true));
        due("23 a commune takes each", false, x.mark(0, true));
        x = new TableTurns();
        due("23 of nothing", true, x.mark(0, false));
        x.fast();
        due("23 of nothing", true, x.mark(0, true));
        due("23 of nothing", 0, x.count(3));
    }

    private static void count() {
        TableTurns x = told(BASE);
        x.eat(0, 0, true);
        x.eat(0, 0, true);
        weeks(x, "none;abroad ann ham;none;");
        x.tell(2, 9);
        x.feed(0x61L, 0, 0);
        int[] due = {4, 2, 3, 2, 34, 7, 0, 1, 3, 1, 2, 1, 50 + 45 + 52 + 45};
        for (int what = 0; what < due.length; what++) {
            due("24 count " + what, due[what], x.count(what));
        }
        due("24 another", -1, x.count(13));
        due("24 another", -1, x.count(-1));
        for (int i = 0; i < 8; i++) {
            x.fast();
        }
        // 45 is 6 * 7 + 3 and 45 is 5 * 9: ben is hungry on the last of these
        due("24 hungry in all", 1, x.count(6));
        x.fast();
        due("24 hungry in all", 2, x.count(6));
        due("24 who sits", 15, x.count(5));
    }
}
