/** For each promise: ordinary inputs, the edges that the document names, and wrong inputs. */
public final class PromiseTest {
    private static final int LEAST = Check.LEAST;
    private static final int MOST = Check.MOST;

    private static void newObject() {
        Check.about("promise 1");
        HedgeCourt x = new HedgeCourt();
        Check.due("NONE", HedgeCourt.NONE, -1);
        int[] at = {0, 1, 2, 3, 4, 10, 11, 12, 13, 14, 15, 20, 21, 22, 23, 24, 25};
        int[] want = {0, 0, 12, 1, 0, 1, 1, 1, 1, 1, 1, 0, 0, 0, 0, 0, 0};
        for (int i = 0; i < at.length; i++) {
            Check.due("look(" + at[i] + ")", x.look(at[i]), want[i]);
        }
        Check.due("fault(0)", x.fault(0), 0);
        Check.due("fault(1)", x.fault(1), -1);
        Check.due("said(0, 0)", x.said(0, 0), -1);
        Check.duePaper(x, 0, 0, 0, 0, 0, 0, 0, 0, 0, 0, 0);
        Check.due("line(9)", x.line(9), 0);
        Check.due("spells(0, 0)", x.spells(0, 0), 0);
        Check.due("spells(0, 2)", x.spells(0, 2), -1);
        Check.due("split(0)", x.split(0), -1);
        Check.due("end(0)", x.end(0), true);
        Check.due("end(1)", x.end(1), false);
        Check.due("rules()", x.rules(), 0);
        HedgeCourt y = new HedgeCourt();
        y.say(0, 0, 9, 9, 9, 0, 0);
        y.mow(0, 0, 9, 9, 9);
        Check.due("another object's look(0)", x.look(0), 0);
        Check.due("another object's look(4)", x.look(4), 0);
    }

    private static void say() {
        Check.about("promise 2");
        HedgeCourt x = new HedgeCourt();
        int[][] bad = {
            {-1, 0, 0, 0, 0, 0, 0}, {6, 0, 0, 0, 0, 0, 0}, {0, -1, 0, 0, 0, 0, 0}, {0, 0, 10, 0, 0, 0, 0},
            {0, 2, 1, 0, 0, 0, 0}, {0, 0, -1, 0, 0, 0, 0}, {0, 10, 10, 0, 0, 0, 0}, {0, 0, 0, -1, 0, 0, 0},
            {0, 0, 0, 0, 80, 0, 0}, {0, 0, 0, 80, 80, 0, 0}, {0, 0, 0, 7, 6, 0, 0}, {0, 0, 0, 0, 0, -1, 0},
            {0, 0, 0, 0, 0, 1000, 0}, {2, 0, 0, 0, 0, 0, -1}, {2, 0, 0, 0, 0, 0, 2}, {0, 0, 0, 0, 0, 0, 2},
            {LEAST, 0, 0, 0, 0, 0, 0}, {MOST, 0, 0, 0, 0, 0, 0}, {0, LEAST, MOST, 0, 0, 0, 0},
            {0, 0, 0, LEAST, MOST, 0, 0}, {0, 0, 0, 0, 0, LEAST, 0}, {0, 0, 0, 0, 0, MOST, 0},
        };
        for (int[] b : bad) {
            Check.due("a wrong say", x.say(b[0], b[1], b[2], b[3], b[4], b[5], b[6]), -1);
            Check.due("look(0) behind a wrong say", x.look(0), 0);
        }
        Check.due("say at the least", x.say(0, 0, 0, 0, 0, 0, 0), 0);
        Check.due("say at the greatest", x.say(5, 9, 9, 79, 79, 999, 1), 1);
        for (int i = 2; i < 12; i++) {
            Check.due("say " + i, x.say(i % 6, 0, 9, 0, 79, i, i % 2), i);
        }
        Check.due("the 13th say", x.say(0, 0, 0, 0, 0, 0, 0), -1);
        Check.due("look(0)", x.look(0), 12);
        Check.due("said(11, 3)", x.said(11, 3), 11);
        Check.due("said(12, 3)", x.said(12, 3), -1);
    }

    private static void feed() {
        Check.about("promise 3");
        HedgeCourt x = new HedgeCourt();
        for (int i = 1; i <= 20; i++) {
            Check.due("feed " + i, x.feed(0x20202020, 0x20202020, 0x20202020, 0x20202020, 0x20202020), 20 * i);
        }
        Check.due("the 21st feed", x.feed(0, 0, 0, 0, 0), -1);
        Check.due("end(401)", x.end(401), false);
        Check.due("end(381)", x.end(381), true);
        Check.due("feed at 381", x.feed(0, 0, 0, 0, 0), -1);
        Check.due("end(380)", x.end(380), true);
        // "newer survey;  bend " has its bytes in order only if each number's highest comes first.
        Check.due("feed at 380", x.feed(0x6e657765, 0x72207375, 0x72766579, 0x3b202062, 0x656e6420), 400);
        Check.due("rules() without its end", x.rules(), -1);
        Check.due("fault(1)", x.fault(1), 400);
        Check.due("feed behind rules()", x.feed(0x62656e64, 0x20373b20, 0x20202020, 0x20202020, 0x20202020), 20);
        Check.due("rules()", x.rules(), 1);
        Check.due("look(3)", x.look(3), 7);
        Check.due("feed of bytes above 127", x.feed(-1, -1, -1, -1, -1), 20);
        Check.due("rules()", x.rules(), -1);
        Check.due("fault(0)", x.fault(0), 1);
        Check.due("fault(1)", x.fault(1), 0);
    }

    private static void end() {
        Check.about("promise 4");
        HedgeCourt x = new HedgeCourt();
        Check.due("end(-1)", x.end(-1), false);
        Check.due("end(LEAST)", x.end(LEAST), false);
        Check.due("end(1)", x.end(1), false);
        x.feed(0x62656e64, 0x20353b3f, 0, 0, 0);
        Check.due("end(21)", x.end(21), false);
        Check.due("end(MOST)", x.end(MOST), false);
        Check.due("end(-1)", x.end(-1), false);
        Check.due("end(20)", x.end(20), true);
        Check.due("end(7)", x.end(7), true);
        Check.due("end(8)", x.end(8), false);
        Check.due("rules()", x.rules(), 1);
        Check.due("look(3)", x.look(3), 5);
        x.feed(1, 2, 3, 4, 5);
        Check.due("end(0)", x.end(0), true);
        Check.due("feed", x.feed(1, 2, 3, 4, 5), 20);
    }

    private static void rules() {
        Check.about("promise 5");
        Check.dueLaw("", 0);
        Check.dueLaw(" \n ", 0);
        Check.dueLaw("weigh deed 20;weigh map 0;throw 9;throw 0;bend 9;bend 0;hold 1;hold 99;newer word;", 9);
        Check.dueLaw("\nweigh\ndeed\n20\n;\n", 1);
        Check.dueLaw("weigh deed20;hold5;", 2);
        Check.dueLaw("bend 09;hold 01;weigh post 00;", 3);
        Check.dueLaw("bend 1;".repeat(20), 20);
        Check.dueLaw("bend 1;".repeat(20) + "  \n", 20);
        HedgeCourt x = new HedgeCourt();
        Check.due("rules()", Check.law(x, "weigh deed 3;weigh survey 20;throw 4;hold 7;bend 2;newer ditch;newer post;weigh deed 5;"), 8);
        int[] at = {1, 2, 3, 10, 11, 12, 13, 14, 15, 20, 21, 22, 23, 24, 25};
        int[] want = {4, 7, 2, 5, 1, 1, 1, 1, 20, 0, 0, 1, 1, 0, 0};
        for (int i = 0; i < at.length; i++) {
            Check.due("look(" + at[i] + ")", x.look(at[i]), want[i]);
        }
        Check.due("a faulty rules()", Check.law(x, "hold 9;bend 3;newer map;weigh word 4;hold"), -1);
        for (int i = 0; i < at.length; i++) {
            Check.due("look(" + at[i] + ") behind a fault", x.look(at[i]), want[i]);
        }
        Check.due("feed behind a fault", x.feed(0x20202020, 0x20202020, 0x20202020, 0x20202020, 0x20202020), 20);
        Check.due("rules() of blanks", x.rules(), 0);
        int[] first = {0, 12, 1, 1, 1, 1, 1, 1, 1, 0, 0, 0, 0, 0, 0};
        for (int i = 0; i < at.length; i++) {
            Check.due("look(" + at[i] + ") of an empty law", x.look(at[i]), first[i]);
        }
        Check.law(x, "");
        for (int i = 0; i < at.length; i++) {
            Check.due("look(" + at[i] + ") of a second empty law", x.look(at[i]), first[i]);
        }
        Check.due("feed behind rules()", x.feed(0, 0, 0, 0, 0), 20);
    }

    private static void fault() {
        Check.about("promise 6");
        Check.dueFault("x", 1, 0);
        Check.dueFault(" ;", 1, 1);
        Check.dueFault("7", 1, 0);
        Check.dueFault("deed 3;", 1, 0);
        Check.dueFault("weigh", 1, 5);
        Check.dueFault("weigh  \n", 1, 8);
        Check.dueFault("weigh 3;", 1, 6);
        Check.dueFault("weigh hold 3;", 1, 6);
        Check.dueFault("weigh deed;", 1, 10);
        Check.dueFault("weigh deed 3", 1, 12);
        Check.dueFault("weigh deed 3 4;", 1, 13);
        Check.dueFault("weigh deed 3 bend 1;", 1, 13);
        Check.dueFault("weigh deed map 3;", 1, 11);
        Check.dueFault("weigh deed 21;", 2, 11);
        Check.dueFault("weigh deed 21", 2, 11);
        Check.dueFault("weigh deed 021;", 1, 11);
        Check.dueFault("weigh deed 1 0;", 1, 13);
        Check.dueFault("throw 10;", 2, 6);
        Check.dueFault("bend 10;", 2, 5);
        Check.dueFault("hold 0;", 2, 5);
        Check.dueFault("hold 00;", 2, 5);
        Check.dueFault("hold 000;", 1, 5);
        Check.dueFault("hold 100;", 1, 5);
        Check.dueFault("hold deed 1;", 1, 5);
        Check.dueFault("hold -1;", 1, 5);
        Check.dueFault("newer deed 1;", 1, 11);
        Check.dueFault("newer bend;", 1, 6);
        Check.dueFault("newer;", 1, 5);
        Check.dueFault("newer maps;", 1, 6);
        Check.dueFault("newermap;", 1, 0);
        Check.dueFault("bends 1;", 1, 0);
        Check.dueFault("ben 1;", 1, 0);
        Check.dueFault("Bend 1;", 1, 0);
        for (String letter : new String[] {"a", "z", "A", "Z"}) {
            Check.dueFault("bend" + letter + " 1;", 1, 0);
        }
        for (String sign : new String[] {"@", "[", "`", "{", "/", ":", "_"}) {
            Check.dueFault("bend" + sign + " 1;", 1, 4);
        }
        Check.dueFault("weigh weigh 3;", 1, 6);
        Check.dueFault("weigh 100 3;", 1, 6);
        Check.dueFault("newer weigh;", 1, 6);
        Check.dueFault("newer throw;", 1, 6);
        Check.dueFault("z".repeat(400), 1, 0);
        Check.dueFault("9".repeat(400), 1, 0);
        Check.dueFault("bend 1" + " ".repeat(394), 1, 400);
        Check.dueFault("bend 1;" + " ".repeat(388) + "hold ", 1, 400);
        Check.dueFault("bend 1;;", 1, 7);
        Check.dueFault("bend\t1;", 1, 4);
        Check.dueFault("bend\r1;", 1, 4);
        Check.dueFault("bend 1;\u0000", 1, 7);
        Check.dueFault("bend 1;\u00e9", 1, 7);
        Check.dueFault("bend 1;bend 77;x", 2, 12);
        Check.dueFault("x;bend 77;", 1, 0);
        Check.dueFault("bend 1;".repeat(20) + "bend 1;", 3, 140);
        Check.dueFault("bend 1;".repeat(20) + "\n hold 0;", 3, 142);
        Check.dueFault("bend 1;".repeat(20) + "bend", 3, 140);
        Check.dueFault("bend 1;".repeat(20) + "deed", 1, 140);
        Check.dueFault("bend 1;".repeat(20) + ";", 1, 140);
        Check.dueFault("bend 1;".repeat(19) + "bend 10;bend 1;", 2, 138);
        HedgeCourt x = new HedgeCourt();
        Check.law(x, "hold 0;");
        Check.due("fault(2)", x.fault(2), -1);
        Check.due("fault(-1)", x.fault(-1), -1);
        Check.due("fault(LEAST)", x.fault(LEAST), -1);
        Check.due("fault(MOST)", x.fault(MOST), -1);
        x.feed(0, 0, 0, 0, 0);
        Check.due("fault(0) stays till rules()", x.fault(0), 2);
        x.end(0);
        x.rules();
        Check.due("fault(0) of the latest", x.fault(0), 0);
        Check.due("fault(1) of the latest", x.fault(1), -1);
        // What end() took away is no more of the text, though it stood behind it.
        dueCutFault("bend 12;", 6, 1, 6);
        dueCutFault("bend 1;bends", 11, 1, 11);
        dueCutFault("bend 1;", 6, 1, 6);
    }

    private static void dueCutFault(String text, int length, int fault, int place) {
        HedgeCourt x = new HedgeCourt();
        Check.put(x, text);
        x.end(length);
        Check.due("rules of '" + text + "' cut", x.rules(), -1);
        Check.due("fault(0) of '" + text + "' cut", x.fault(0), fault);
        Check.due("fault(1) of '" + text + "' cut", x.fault(1), place);
    }

    private static void look() {
        Check.about("promise 7");
        HedgeCourt x = new HedgeCourt();
        int[] none = {-1, 5, 6, 9, 16, 17, 19, 26, 27, 30, LEAST, MOST};
        for (int what : none) {
            Check.due("look(" + what + ")", x.look(what), -1);
        }
        x.say(0, 0, 0, 0, 0, 0, 0);
        x.say(0, 0, 0, 0, 0, 0, 0);
        x.mow(0, 0, 0, 0, 0);
        x.mow(0, 0, 0, 0, 0);
        x.mow(0, 0, 0, 0, 0);
        Check.law(x, "weigh deed 2;weigh map 3;weigh ditch 4;weigh post 5;weigh word 6;weigh survey 7;throw 8;hold 9;bend 6;");
        int[] at = {0, 1, 2, 3, 4, 10, 11, 12, 13, 14, 15};
        int[] want = {2, 8, 9, 6, 3, 2, 3, 4, 5, 6, 7};
        for (int i = 0; i < at.length; i++) {
            Check.due("look(" + at[i] + ")", x.look(at[i]), want[i]);
        }
        String[] kinds = {"deed", "map", "ditch", "post", "word", "survey"};
        for (int k = 0; k < 6; k++) {
            Check.law(x, "newer " + kinds[k] + ";");
            for (int j = 0; j < 6; j++) {
                Check.due("look(" + (20 + j) + ")", x.look(20 + j), j == k ? 1 : 0);
            }
        }
    }

    private static void said() {
        Check.about("promise 8");
        HedgeCourt x = new HedgeCourt();
        Check.due("said(-1, 0)", x.said(-1, 0), -1);
        x.say(2, 1, 3, 75, 77, 500, 0);
        x.say(2, 2, 4, 3, 6, 600, 1);
        x.say(3, 0, 9, 75, 77, 7, 0);
        x.say(2, 4, 4, 40, 50, 600, 0);
        int[][] plain = {{2, 75, 77, 500, 14}, {2, 3, 6, 600, 28}, {3, 75, 77, 7, 1023}, {2, 40, 50, 600, 16}};
        dueSaid(x, plain);
        Check.law(x, "throw 4;newer ditch;");
        int[][] thrown = {{2, 79, 79, 500, 2}, {2, 0, 2, 600, 28}, {3, 75, 77, 7, 1023}, {2, 44, 54, 600, 16}};
        dueSaid(x, thrown);
        x.say(2, 0, 9, 0, 79, 601, 0);
        Check.due("said(0, 4) behind a newer one", x.said(0, 4), 0);
        Check.due("said(1, 4) behind a newer one", x.said(1, 4), 0);
        Check.due("said(4, 4)", x.said(4, 4), 1023);
        Check.due("said(4, 1)", x.said(4, 1), 4);
        Check.due("said(4, 2)", x.said(4, 2), 79);
        Check.law(x, "newer post;weigh post 0;");
        dueSaid(x, plain);
        HedgeCourt y = new HedgeCourt();
        Check.law(y, "newer word;");
        y.say(4, 3, 4, 1, 1, 9, 0);
        y.say(4, 4, 5, 1, 1, 8, 0);
        y.say(0, 4, 5, 1, 1, 99, 0);
        Check.due("said(0, 4) of the newest, said first", y.said(0, 4), 24);
        Check.due("said(1, 4) of an older one", y.said(1, 4), 32);
        Check.due("said(2, 4) of another kind", y.said(2, 4), 48);
        int[][] none = {{0, -1}, {0, 5}, {5, 0}, {12, 0}, {LEAST, 0}, {MOST, 4}, {0, LEAST}, {0, MOST}};
        for (int[] n : none) {
            Check.due("said(" + n[0] + ", " + n[1] + ")", x.said(n[0], n[1]), -1);
        }
    }

    private static void dueSaid(HedgeCourt x, int[][] want) {
        for (int i = 0; i < want.length; i++) {
            for (int what = 0; what < 5; what++) {
                Check.due("said(" + i + ", " + what + ")", x.said(i, what), want[i][what]);
            }
        }
    }

    private static void paper() {
        Check.about("promise 9");
        HedgeCourt x = new HedgeCourt();
        Check.due("paper(10)", x.paper(10), -2);
        Check.due("paper(-2)", x.paper(-2), -2);
        Check.due("paper(LEAST)", x.paper(LEAST), -2);
        Check.due("paper(MOST)", x.paper(MOST), -2);
        x.say(3, 4, 4, 20, 25, 0, 0);
        Check.duePaper(x, 0, 20, 20, 20, 20, 20, 20, 20, 20, 20, 20);
        x.say(3, 8, 8, 28, 30, 0, 0);
        Check.duePaper(x, 3, 25, 25, 25, 25, 25, 25, 25, 25, 25, 25);
        Check.law(x, "bend 0;");
        Check.duePaper(x, 0, 0, 0, 0, 0, 20, 0, 0, 0, 28, 0);
        Check.law(x, "weigh post 3;");
        Check.duePaper(x, 3, 25, 25, 25, 25, 25, 25, 25, 25, 28, 28);
        Check.law(x, "weigh post 3;bend 2;");
        Check.duePaper(x, 6, 25, 25, 25, 25, 25, 25, 25, 25, 28, 28);
        Check.law(x, "weigh post 3;bend 9;");
        Check.duePaper(x, 9, 25, 25, 25, 25, 25, 25, 25, 25, 25, 25);
        Check.law(x, "newer post;bend 9;");
        Check.duePaper(x, 3, 25, 25, 25, 25, 25, 25, 25, 25, 25, 25);
        x.say(2, 0, 0, 70, 70, 0, 0);
        x.say(2, 9, 9, 70, 70, 0, 1);
        Check.law(x, "throw 9;bend 0;weigh post 0;");
        Check.duePaper(x, 0, 79, 0, 0, 0, 0, 0, 0, 0, 0, 61);
        Check.law(x, "bend 0;weigh ditch 0;weigh post 0;");
        Check.duePaper(x, 0, 0, 0, 0, 0, 0, 0, 0, 0, 0, 0);
        HedgeCourt y = new HedgeCourt();
        Check.law(y, "newer deed;bend 0;");
        y.say(0, 0, 2, 10, 10, 5, 0);
        y.say(0, 1, 1, 30, 31, 6, 0);
        y.say(0, 1, 1, 33, 33, 6, 0);
        y.say(0, 1, 1, 33, 34, 6, 0);
        Check.duePaper(y, 2, 10, 33, 10, 0, 0, 0, 0, 0, 0, 0);
    }

    private static void straight() {
        Check.about("promise 10");
        HedgeCourt x = new HedgeCourt();
        Check.due("straight(0)", x.straight(0), 0);
        Check.due("straight(-1)", x.straight(-1), -1);
        Check.due("straight(80)", x.straight(80), -1);
        Check.due("straight(LEAST)", x.straight(LEAST), -1);
        Check.due("straight(MOST)", x.straight(MOST), -1);
        x.say(0, 0, 4, 30, 32, 1, 0);
        x.say(2, 2, 2, 50, 50, 1, 0);
        x.say(0, 4, 9, 40, 40, 2, 0);
        Check.law(x, "weigh deed 2;weigh ditch 5;throw 3;newer deed;bend 9;");
        Check.due("straight(31)", x.straight(31), 5 * 22 + 2 * 6 * 9);
        Check.due("straight(0)", x.straight(0), 2 * 4 * 30 + 5 * 53 + 2 * 6 * 40);
        Check.due("straight(79)", x.straight(79), 2 * 4 * 47 + 5 * 26 + 2 * 6 * 39);
        HedgeCourt y = new HedgeCourt();
        Check.law(y, "weigh deed 20;");
        for (int i = 0; i < 12; i++) {
            y.say(0, 0, 9, 79, 79, 0, 0);
        }
        Check.due("the greatest straight", y.straight(0), 12 * 10 * 20 * 79);
    }

    private static void mow() {
        Check.about("promise 11");
        HedgeCourt x = new HedgeCourt();
        int[][] bad = {
            {-1, 0, 0, 0, 0}, {2, 0, 0, 0, 0}, {0, -1, 0, 0, 0}, {0, 0, 10, 0, 0}, {0, 1, 0, 0, 0}, {0, 10, 10, 0, 0},
            {0, 0, 0, -1, 0}, {0, 0, 0, 80, 0}, {0, 0, 0, 0, -1}, {0, 0, 0, 0, 1000}, {LEAST, 0, 0, 0, 0},
            {MOST, 0, 0, 0, 0}, {0, LEAST, MOST, 0, 0}, {0, 0, 0, MOST, 0}, {0, 0, 0, 0, LEAST},
        };
        for (int[] b : bad) {
            Check.due("a wrong mow", x.mow(b[0], b[1], b[2], b[3], b[4]), false);
            Check.due("look(4) behind a wrong mow", x.look(4), 0);
        }
        Check.due("mow at the greatest", x.mow(1, 9, 9, 79, 999), true);
        Check.due("mowed(1, 9, 999)", x.mowed(1, 9, 999), 79);
        for (int i = 1; i < 60; i++) {
            Check.due("mow " + i, x.mow(0, 0, 0, i, 0), true);
        }
        Check.due("the 61st mow", x.mow(0, 0, 0, 70, 0), false);
        Check.due("look(4)", x.look(4), 60);
        Check.due("mowed(0, 0, 0)", x.mowed(0, 0, 0), 59);
    }

    private static void protest() {
        Check.about("promise 12");
        HedgeCourt x = new HedgeCourt();
        int[][] bad = {{-1, 0}, {10, 0}, {0, -1}, {0, 1000}, {LEAST, 0}, {MOST, 0}, {0, LEAST}, {0, MOST}};
        for (int[] b : bad) {
            Check.due("a wrong protest", x.protest(b[0], b[1]), false);
        }
        Check.due("protest(9, 999)", x.protest(9, 999), true);
        Check.due("protest(9, 999) again", x.protest(9, 999), false);
        for (int i = 1; i < 20; i++) {
            Check.due("protest " + i, x.protest(i % 10, i), true);
        }
        Check.due("the 21st protest", x.protest(0, 500), false);
        Check.law(x, "hold 1;");
        x.mow(0, 0, 9, 9, 500);
        Check.due("spells(0, 0): the 21st did nothing", x.spells(0, 0), 1);
        x.mow(0, 0, 9, 9, 19);
        Check.due("spells(9, 0): protested", x.spells(9, 0), 1);
        Check.due("spells(8, 0): not there", x.spells(8, 0), 2);
    }

    private static void mowed() {
        Check.about("promise 13");
        HedgeCourt x = new HedgeCourt();
        Check.due("mowed(0, 0, 0)", x.mowed(0, 0, 0), -1);
        x.mow(0, 2, 5, 40, 100);
        x.mow(1, 2, 5, 30, 100);
        x.mow(0, 4, 6, 20, 100);
        x.mow(0, 0, 9, 10, 101);
        Check.due("mowed(0, 1, 100)", x.mowed(0, 1, 100), -1);
        Check.due("mowed(0, 2, 100)", x.mowed(0, 2, 100), 40);
        Check.due("mowed(0, 3, 100)", x.mowed(0, 3, 100), 40);
        Check.due("mowed(0, 4, 100)", x.mowed(0, 4, 100), 20);
        Check.due("mowed(0, 6, 100)", x.mowed(0, 6, 100), 20);
        Check.due("mowed(0, 7, 100)", x.mowed(0, 7, 100), -1);
        Check.due("mowed(1, 5, 100)", x.mowed(1, 5, 100), 30);
        Check.due("mowed(1, 6, 100)", x.mowed(1, 6, 100), -1);
        Check.due("mowed(0, 0, 101)", x.mowed(0, 0, 101), 10);
        Check.due("mowed(0, 0, 102)", x.mowed(0, 0, 102), -1);
        int[][] none = {{-1, 3, 100}, {2, 3, 100}, {0, -1, 100}, {0, 10, 100}, {0, 3, -1}, {0, 3, 1000},
            {LEAST, 3, 100}, {0, MOST, 100}, {0, 3, MOST}};
        for (int[] n : none) {
            Check.due("a wrong mowed", x.mowed(n[0], n[1], n[2]), -1);
        }
        x.protest(3, 100);
        Check.due("mowed stays when protested", x.mowed(0, 3, 100), 40);
    }

    private static HedgeCourt court(String text) {
        HedgeCourt x = new HedgeCourt();
        x.say(0, 0, 9, 40, 40, 0, 0);
        Check.law(x, text);
        return x;
    }

    private static void spells() {
        Check.about("promise 14");
        HedgeCourt x = court("hold 2;");
        int[][] none = {{-1, 0}, {10, 0}, {0, -1}, {0, 3}, {LEAST, 0}, {MOST, 0}, {0, LEAST}, {0, MOST}};
        for (int[] n : none) {
            Check.due("a wrong spells", x.spells(n[0], n[1]), -1);
        }
        x.mow(0, 0, 3, 50, 12);
        x.mow(0, 0, 3, 45, 10);
        Check.dueSpells(x, 0, 0, 0, -1, 40);
        x.mow(0, 0, 0, 60, 11);
        Check.dueSpells(x, 0, 2, 0, 12, 50);
        Check.due("spells(0, 3) of a line that moved", x.spells(0, 3), -1);
        Check.due("spells(0, -1) of a line that moved", x.spells(0, -1), -1);
        Check.dueSpells(x, 1, 0, 0, -1, 40);
        x.mow(0, 1, 1, 40, 11);
        Check.dueSpells(x, 1, 0, 0, -1, 40);
        x.mow(0, 1, 1, 41, 11);
        Check.dueSpells(x, 1, 2, 0, 11, 41);
        x.mow(0, 1, 1, 41, 13);
        Check.dueSpells(x, 1, 3, 0, 11, 41);
        x.mow(1, 2, 2, 39, 0);
        x.mow(1, 2, 2, 38, 1);
        Check.dueSpells(x, 2, 0, 1, 1, 39);
        x.mow(1, 2, 2, 39, 999);
        x.mow(1, 2, 2, 10, 998);
        Check.dueSpells(x, 2, 0, 2, 1, 39);
        x.mow(1, 2, 2, 40, 999);
        Check.dueSpells(x, 2, 0, 1, 1, 39);
        x.protest(2, 2);
        Check.dueSpells(x, 2, 0, 1, 1, 39);
        x.protest(2, 0);
        Check.dueSpells(x, 2, 0, 0, -1, 40);
        Check.law(x, "hold 1;");
        Check.dueSpells(x, 2, 2, 2, 998, 10);
        Check.law(x, "");
        Check.dueSpells(x, 0, 0, 0, -1, 40);
        HedgeCourt z = court("hold 1;");
        z.mow(0, 9, 9, 79, 0);
        Check.dueSpells(z, 9, 1, 0, 0, 79);
        HedgeCourt y = court("hold 60;");
        for (int i = 0; i < 60; i++) {
            Check.dueSpells(y, 5, 0, 0, -1, 40);
            y.mow(1, 5, 5, 39 - i % 20, 400 + i);
        }
        Check.dueSpells(y, 5, 0, 1, 459, 39);
        Check.law(y, "hold 61;");
        Check.dueSpells(y, 5, 0, 0, -1, 40);
    }

    private static void line() {
        Check.about("promise 15");
        HedgeCourt x = court("hold 1;");
        Check.due("line(-1)", x.line(-1), -1);
        Check.due("line(10)", x.line(10), -1);
        Check.due("line(LEAST)", x.line(LEAST), -1);
        Check.due("line(MOST)", x.line(MOST), -1);
        Check.due("line(0)", x.line(0), 40);
        x.mow(1, 0, 0, 30, 5);
        Check.due("line(0)", x.line(0), 30);
        Check.due("line(1)", x.line(1), 40);
        x.mow(0, 0, 0, 50, 5);
        Check.dueSpells(x, 0, 1, 1, 5, 30);
        x.mow(0, 0, 0, 41, 6);
        Check.dueSpells(x, 0, 2, 1, 6, 41);
        x.mow(0, 0, 0, 41, 7);
        Check.dueSpells(x, 0, 3, 1, 6, 41);
        x.mow(1, 0, 0, 35, 4);
        Check.dueSpells(x, 0, 3, 2, 6, 41);
        x.mow(1, 1, 1, 30, 9);
        x.mow(1, 1, 1, 30, 8);
        Check.dueSpells(x, 1, 0, 2, 8, 30);
        x.mow(0, 1, 1, 35, 8);
        Check.dueSpells(x, 1, 0, 2, 8, 30);
        // A new saying moves the paper line, and spells are beyond that one.
        x.say(0, 0, 9, 20, 20, 0, 0);
        x.say(0, 0, 9, 20, 20, 0, 0);
        Check.dueSpells(x, 1, 1, 0, 8, 35);
    }

    private static void quarrel() {
        Check.about("promise 16");
        HedgeCourt x = new HedgeCourt();
        int[][] bad = {
            {80, 40, 1, 1, 1, 1, 1, 1}, {40, -1, 1, 1, 1, 1, 1, 1}, {40, 40, 1, 1, 1, 1, 1, 1},
            {39, 40, 1, 1, 1, 1, 1, 1}, {50, 40, -1, 1, 1, 1, 1, 1}, {50, 40, 100, 1, 1, 1, 1, 1},
            {50, 40, 1, -1, 1, 1, 1, 1}, {50, 40, 1, 100, 1, 1, 1, 1}, {50, 40, 1, 1, -1, 1, 1, 1},
            {50, 40, 1, 1, 1000, 1, 1, 1}, {50, 40, 1, 1, 1, -1, 1, 1}, {50, 40, 1, 1, 1, 1000, 1, 1},
            {50, 40, 1, 1, 1, 1, 0, 1}, {50, 40, 1, 1, 1, 1, 100, 1}, {50, 40, 1, 1, 1, 1, 1, 0},
            {50, 40, 1, 1, 1, 1, 1, 100}, {MOST, LEAST, 1, 1, 1, 1, 1, 1}, {50, 40, MOST, LEAST, 1, 1, 1, 1},
            {50, 40, 1, 1, MOST, LEAST, 1, 1}, {50, 40, 1, 1, 1, 1, MOST, LEAST},
        };
        for (int[] b : bad) {
            Check.due("a wrong quarrel", x.quarrel(b[0], b[1], b[2], b[3], b[4], b[5], b[6], b[7]), false);
            Check.due("split(0) behind a wrong quarrel", x.split(0), -1);
        }
        Check.due("quarrel at the greatest", x.quarrel(79, 0, 99, 99, 999, 999, 99, 99), true);
        // Court is worth 2911 1/2 to each: 30 feet of 99 at least.
        Check.dueSplits(x, 20, 30, 49, 39);
        Check.due("quarrel at the least", x.quarrel(1, 0, 0, 0, 0, 0, 1, 1), true);
        Check.dueSplits(x, 2, 0, 1, 0);
        for (int[] b : bad) {
            x.quarrel(b[0], b[1], b[2], b[3], b[4], b[5], b[6], b[7]);
        }
        Check.dueSplits(x, 2, 0, 1, 0);
    }

    private static void split() {
        Check.about("promise 17");
        HedgeCourt x = new HedgeCourt();
        int[] none = {-1, 4, 5, LEAST, MOST};
        for (int what = 0; what < 4; what++) {
            Check.due("split(" + what + ") without a quarrel", x.split(what), -1);
        }
        x.quarrel(50, 40, 10, 10, 5, 5, 1, 2);
        for (int what : none) {
            Check.due("split(" + what + ")", x.split(what), -1);
        }
        // To 0 the court is worth 33 1/3 - 5, to 1 it is 66 2/3 - 5: only foot 43 is fair.
        Check.dueSplits(x, 1, 43, 43, 43);
        x.quarrel(50, 40, 10, 10, 4, 4, 1, 2);
        Check.dueSplits(x, 1, 43, 43, 43);
        x.quarrel(50, 40, 10, 10, 3, 3, 1, 2);
        Check.dueSplits(x, 0, -1, -1, -1);
        x.quarrel(50, 40, 10, 10, 3, 4, 1, 2);
        Check.dueSplits(x, 0, -1, -1, -1);
        // Exactly what court is worth is fair.
        x.quarrel(50, 40, 10, 10, 0, 0, 1, 1);
        Check.dueSplits(x, 1, 45, 45, 45);
        // Of like ones the least: 46 and 47 both have a lesser gain of 10.
        x.quarrel(51, 41, 10, 10, 15, 15, 1, 1);
        Check.dueSplits(x, 3, 45, 47, 46);
        x.quarrel(51, 40, 10, 10, 15, 15, 1, 1);
        Check.dueSplits(x, 4, 44, 47, 45);
        x.quarrel(10, 0, 20, 1, 100, 0, 9, 1);
        Check.dueSplits(x, 6, 4, 9, 5);
        x.quarrel(10, 0, 1, 20, 0, 100, 1, 9);
        Check.dueSplits(x, 6, 1, 6, 5);
        x.quarrel(10, 0, 0, 20, 0, 0, 1, 1);
        Check.dueSplits(x, 6, 0, 5, 0);
    }

    public static void main(String[] args) {
        newObject();
        say();
        feed();
        end();
        rules();
        fault();
        look();
        said();
        paper();
        straight();
        mow();
        protest();
        mowed();
        spells();
        line();
        quarrel();
        split();
        Check.finish("all promises hold");
    }
}
