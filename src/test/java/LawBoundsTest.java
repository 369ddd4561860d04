/** The law's text: each sentence of 'Terms' on its tokens, faults and lines, at the bounds that it names. */
public final class LawBoundsTest {
    private static final String[] VERBS = {"weigh", "throw", "hold", "bend", "newer"};

    private static boolean isBlank(int sign) {
        return sign == 32 || sign == 10;
    }

    private static boolean isDigit(int sign) {
        return sign >= 48 && sign <= 57;
    }

    private static boolean isLetter(int sign) {
        return sign >= 65 && sign <= 90 || sign >= 97 && sign <= 122;
    }

    private static void blanks() {
        Check.about("Terms: Blanks (32, 10) between");
        for (int sign = 0; sign < 256; sign++) {
            String text = Character.toString(sign);
            if (isBlank(sign)) {
                Check.dueLaw("bend" + text + "1;", 1);
                Check.dueLaw("bend 1" + text + ";", 1);
                Check.dueLaw(text + "bend 1;", 1);
                Check.dueLaw("bend 1;" + text, 1);
                Check.dueLaw(text, 0);
                Check.dueFault("be" + text + "nd 1;", 1, 0);
                Check.dueFault("hold 1" + text + "2;", 1, 7);
            } else {
                Check.dueFault(text + "bend 1;", 1, 0);
                Check.dueFault("bend 1;" + text, 1, 7);
                Check.dueFault(text, 1, 0);
                Check.dueFault("bend 1" + text + ";", isDigit(sign) ? 2 : 1, isDigit(sign) ? 5 : sign == ';' ? 7 : 6);
            }
        }
        Check.about("Terms: Blanks between: none is needed, many may stand");
        Check.dueLaw("weigh deed20;hold5;newer map;", 3);
        Check.dueLaw("weigh\n\n \ndeed   20\n;\n \nhold \n1 ; ", 2);
        Check.dueLaw(" ".repeat(393) + "bend 7;", 1);
        Check.dueLaw("bend" + "\n".repeat(394) + "7;", 1);
        Check.dueLaw("bend 7;" + " ".repeat(393), 1);
        Check.dueLaw(" ".repeat(400), 0);
        Check.dueLaw("", 0);
    }

    private static void letters() {
        Check.about("Terms: letters as many as stand together are KEYWORDS (those told here) or none");
        for (int sign = 0; sign < 256; sign++) {
            String text = "bend" + Character.toString(sign) + "1;";
            if (isBlank(sign) || sign == '0') {
                Check.dueLaw(text, 1);
            } else if (isDigit(sign)) {
                Check.dueFault(text, 2, 4);
            } else {
                Check.dueFault(text, 1, isLetter(sign) ? 0 : 4);
            }
        }
        for (String verb : VERBS) {
            misspelled("", verb, verb.equals("newer") ? " map;" : verb.equals("weigh") ? " map 1;" : " 1;");
        }
        for (String kind : Check.KINDS) {
            misspelled("weigh ", kind, " 1;");
            misspelled("newer ", kind, ";");
        }
        Check.dueFault("weighdeed 3;", 1, 0);
        Check.dueFault("newermap;", 1, 0);
        Check.dueFault("e", 1, 0);
        Check.dueFault("z".repeat(400), 1, 0);
        Check.dueFault("bend 1;" + "z".repeat(393), 1, 7);
    }

    /** The keyword stands there; one letter less, more or other, and it is none. */
    private static void misspelled(String before, String word, String behind) {
        Check.dueLaw(before + word + behind, 1);
        for (int i = 0; i < word.length(); i++) {
            String head = word.substring(0, i);
            String tail = word.substring(i + 1);
            char sign = word.charAt(i);
            String[] others = {head + tail, head + sign + sign + tail, head + (char) (sign - 32) + tail,
                head + (char) (sign == 'z' ? 'a' : sign + 1) + tail};
            for (String other : others) {
                Check.dueFault(before + other + behind, 1, before.length());
            }
            // A sign that is no letter parts the word.
            if (i > 0) {
                Check.dueFault(before + head + " " + word.substring(i) + behind, 1, before.length());
            }
        }
        Check.dueFault(before + word + word + behind, 1, before.length());
    }

    private static void keywordsInPlace() {
        Check.about("Terms: 1 what can't stand there");
        for (String verb : VERBS) {
            Check.dueFault("weigh " + verb + " 3;", 1, 6);
            Check.dueFault("newer " + verb + ";", 1, 6);
            Check.dueFault("hold " + verb + ";", 1, 5);
            Check.dueFault("hold 3 " + verb + " 3;", 1, 7);
        }
        for (String kind : Check.KINDS) {
            Check.dueFault(kind + " 3;", 1, 0);
            Check.dueFault("hold " + kind + " 3;", 1, 5);
            Check.dueFault("throw " + kind + " 3;", 1, 6);
            Check.dueFault("bend " + kind + " 3;", 1, 5);
            Check.dueFault("hold 3;" + kind + ";", 1, 7);
            Check.dueFault("weigh deed " + kind + " 3;", 1, 11);
            Check.dueFault("newer map " + kind + ";", 1, 10);
        }
        Check.dueFault(";", 1, 0);
        Check.dueFault("bend 1;;", 1, 7);
        Check.dueFault("weigh;", 1, 5);
        Check.dueFault("weigh 3;", 1, 6);
        Check.dueFault("weigh deed;", 1, 10);
        Check.dueFault("newer;", 1, 5);
        Check.dueFault("newer 3;", 1, 6);
        Check.dueFault("newer map 3;", 1, 10);
        Check.dueFault("3;", 1, 0);
        Check.dueFault("bend;", 1, 4);
        Check.dueFault("bend 3 3;", 1, 7);
        for (int sign : new int[] {58, 60, 59 + 128}) {
            Check.dueFault("bend 3" + (char) sign, 1, 6);
        }
    }

    private static void digits() {
        Check.about("Terms: digits as many as stand together NUMBERS of 1 or 2 digits or none");
        String[] none = {"000", "001", "009", "010", "100", "999", "0000", "4294967297", "18446744073709551617"};
        for (String number : none) {
            Check.dueFault("weigh map " + number + ";", 1, 10);
            Check.dueFault("throw " + number + ";", 1, 6);
            Check.dueFault("hold " + number + ";", 1, 5);
            Check.dueFault("bend " + number + ";", 1, 5);
        }
        Check.dueFault("9".repeat(400), 1, 0);
        Check.dueFault("bend " + "0".repeat(395), 1, 5);
        for (int sign : new int[] {47, 58, 48 + 128}) {
            Check.dueFault("bend " + (char) sign + ";", 1, 5);
        }
        Check.dueFault("bend -1;", 1, 5);
        Check.dueFault("bend +1;", 1, 5);
        Check.dueFault("bend 1x;", 1, 6);
        Check.dueFault("bend 1.0;", 1, 6);
    }

    private static void numbers() {
        Check.about("Terms: 2 (at the NUMBER) a weight above 20, a throw above 9, a bend above 9, a hold of 0");
        for (int n = 0; n <= 99; n++) {
            String[] forms = n < 10 ? new String[] {"" + n, "0" + n} : new String[] {"" + n};
            for (String form : forms) {
                for (int k = 0; k < 6; k++) {
                    number("weigh " + Check.KINDS[k] + " ", form, n <= 20, 10 + k, 1);
                }
                number("throw ", form, n <= 9, 1, 0);
                number("hold ", form, n >= 1, 2, 12);
                number("bend ", form, n <= 9, 3, 1);
            }
        }
    }

    private static void number(String before, String number, boolean good, int look, int first) {
        String text = before + number + ";";
        HedgeCourt x = new HedgeCourt();
        Check.due("rules of '" + text + "'", Check.law(x, text), good ? 1 : -1);
        Check.due("fault(0) of '" + text + "'", x.fault(0), good ? 0 : 2);
        Check.due("fault(1) of '" + text + "'", x.fault(1), good ? -1 : before.length());
        Check.due("look(" + look + ") by '" + text + "'", x.look(look), good ? Integer.parseInt(number) : first);
    }

    private static void textEnds() {
        Check.about("Terms: 1 what can't stand there (the end: the text's length)");
        int[] places = {-1, 0, 0, 0, 0, 5, 6, 6, 6, 6, 10, 11, 12, 13, -1};
        String text = "weigh deed 20;";
        for (int n = 0; n <= text.length(); n++) {
            cutFault(text, n, places[n], n == 0 ? 0 : 1);
        }
        int[] newer = {-1, 0, 0, 0, 0, 5, 6, 6, 6, 9, -1};
        for (int n = 0; n < newer.length; n++) {
            cutFault("newer map;", n, newer[n], n == 0 ? 0 : 1);
        }
        int[] hold = {-1, 0, 0, 0, 4, 5, 6, 7, -1};
        for (int n = 0; n < hold.length; n++) {
            cutFault("hold 12;", n, hold[n], n == 0 ? 0 : 1);
        }
        for (int blanks = 0; blanks <= 20; blanks++) {
            Check.dueFault("weigh" + " ".repeat(blanks), 1, 5 + blanks);
            Check.dueFault("bend 1;bend 1" + "\n".repeat(blanks), 1, 13 + blanks);
        }
        Check.dueFault("bend 1" + " ".repeat(393), 1, 399);
        Check.dueFault("bend 1" + " ".repeat(394), 1, 400);
        Check.dueFault(" ".repeat(399) + "w", 1, 399);
        Check.dueFault(" ".repeat(395) + "weigh", 1, 400);
        Check.dueFault(" ".repeat(394) + "bend 1", 1, 400);
    }

    /** What stood behind the end still lies in the object; it must not be read. */
    private static void cutFault(String text, int n, int place, int lines) {
        HedgeCourt x = new HedgeCourt();
        Check.put(x, text);
        x.end(n);
        String told = "'" + text + "' cut to " + n;
        Check.due("rules of " + told, x.rules(), place < 0 ? lines : -1);
        Check.due("fault(0) of " + told, x.fault(0), place < 0 ? 0 : 1);
        Check.due("fault(1) of " + told, x.fault(1), place);
    }

    private static void firstByPlace() {
        Check.about("Terms: FAULTS, the first by its place");
        Check.dueFault("hold 0;x", 2, 5);
        Check.dueFault("hold 0", 2, 5);
        Check.dueFault("hold 0 0;", 2, 5);
        Check.dueFault("hold 0x;", 2, 5);
        Check.dueFault("x;hold 0;", 1, 0);
        Check.dueFault("hold x;hold 0;", 1, 5);
        Check.dueFault("hold 1;throw 10;hold 0;", 2, 13);
        Check.dueFault("weigh x 21;", 1, 6);
        Check.dueFault("weigh deed 21 x", 2, 11);
        Check.dueFault("bend 10;" + "bend 1;".repeat(20), 2, 5);
        Check.dueFault("bend 1;".repeat(19) + "bend 10;bend 1;", 2, 138);
        Check.dueFault("bend 1;".repeat(19) + "bend 1 bend 1;", 1, 140);
        Check.dueFault("bend 1;".repeat(20) + "bend 10;", 3, 140);
        Check.dueFault("bend 1;".repeat(20) + "bend x;", 3, 140);
        Check.dueFault("bend 1;".repeat(20) + "bend", 3, 140);
        Check.about("Terms: at one place the least");
        Check.dueFault("hold 000;", 1, 5);
        Check.dueFault("bend 100;", 1, 5);
        Check.dueFault("bend 1;".repeat(20) + "deed 1;", 1, 140);
        Check.dueFault("bend 1;".repeat(20) + "bends 1;", 1, 140);
        Check.dueFault("bend 1;".repeat(20) + ";", 1, 140);
        Check.dueFault("bend 1;".repeat(20) + "1;", 1, 140);
        Check.dueFault("bend 1;".repeat(20) + "?", 1, 140);
    }

    private static void lines() {
        Check.about("Terms: 3 (at its first KEYWORD) the 21st line");
        String[] forms = {"weigh survey 20;", "throw 9;", "hold 99;", "bend 9;", "newer ditch;"};
        for (String form : forms) {
            for (int n = 0; n <= 20; n++) {
                Check.dueLaw(form.repeat(n), n);
            }
            int place = 20 * form.length();
            Check.dueLaw(form.repeat(20) + " \n ", 20);
            Check.dueFault(form.repeat(21), 3, place);
            Check.dueFault(form.repeat(22), 3, place);
            Check.dueFault(form.repeat(20) + " \n" + form, 3, place + 2);
            for (String other : forms) {
                Check.dueFault(form.repeat(20) + other, 3, place);
            }
        }
        HedgeCourt x = Check.underLaw("bend 1;".repeat(19) + "bend 7;");
        Check.due("look(3): the 20th line counts", x.look(3), 7);
        Check.due("rules of 21 lines", Check.law(x, "bend 4;".repeat(21)), -1);
        Check.due("look(3): the law stays", x.look(3), 7);
    }

    private static void laterLines() {
        Check.about("Terms: Told line by line, the later ones in place of the earlier");
        HedgeCourt x = Check.underLaw("weigh map 20;weigh map 0;throw 9;throw 0;hold 99;hold 1;bend 0;bend 9;"
            + "weigh deed 0;weigh deed 20;newer word;newer word;");
        int[][] want = {{10, 20}, {11, 0}, {12, 1}, {1, 0}, {2, 1}, {3, 9}, {20, 0}, {23, 0}, {24, 1}, {25, 0}};
        for (int[] w : want) {
            Check.due("look(" + w[0] + ")", x.look(w[0]), w[1]);
        }
        for (int k = 0; k < 6; k++) {
            HedgeCourt y = Check.underLaw("weigh " + Check.KINDS[k] + " 7;newer " + Check.KINDS[5 - k] + ";");
            for (int j = 0; j < 6; j++) {
                Check.due("look(" + (10 + j) + ")", y.look(10 + j), j == k ? 7 : 1);
                Check.due("look(" + (20 + j) + ")", y.look(20 + j), j == 5 - k ? 1 : 0);
            }
        }
    }

    private static void lawAsAtFirst() {
        Check.about("Terms: By a new LAW all is as at first ahead of its lines");
        String all = "throw 5;hold 6;bend 7;weigh deed 2;weigh map 3;weigh ditch 4;weigh post 5;weigh word 6;"
            + "weigh survey 7;newer deed;newer map;newer ditch;newer post;newer word;newer survey;";
        int[] first = {0, 12, 1};
        String[] next = {"", "throw 3;", "hold 3;", "bend 3;", "newer map;", "weigh word 3;"};
        int[] changed = {0, 1, 2, 3, 21, 14};
        for (int i = 0; i < next.length; i++) {
            HedgeCourt x = Check.underLaw(all);
            // Again and again: no law before it, and no faulty one between, may show through.
            for (int turn = 0; turn < 3; turn++) {
                Check.due("rules of all", Check.law(x, all), 15);
                Check.due("look(25) by all", x.look(25), 1);
                Check.due("faulty rules", Check.law(x, "throw 9;hold 9;newer map;weigh map 9;bend 10;"), -1);
                Check.due("look(11) stays", x.look(11), 3);
                Check.due("rules of '" + next[i] + "'", Check.law(x, next[i]), i == 0 ? 0 : 1);
                for (int what = 1; what <= 25; what++) {
                    int told = what <= 3 ? first[what - 1] : what >= 20 ? 0 : 1;
                    boolean known = what <= 3 || what >= 10 && what <= 15 || what >= 20;
                    int due = !known ? what == 4 ? 0 : -1 : what != changed[i] ? told : what == 21 ? 1 : 3;
                    Check.due("look(" + what + ") by '" + next[i] + "'", x.look(what), due);
                }
            }
        }
    }

    private static void tapeIsEmptyThen() {
        Check.about("Promise 5: The TAPE, empty then");
        for (String text : new String[] {"", "bend 7;", "bend 10;", "bend", " ".repeat(400), "x".repeat(400)}) {
            HedgeCourt x = new HedgeCourt();
            Check.law(x, text);
            Check.due("end(1) behind rules of '" + text + "'", x.end(1), false);
            Check.due("end(0)", x.end(0), true);
            Check.due("rules() of nothing", x.rules(), 0);
            Check.due("look(3): the empty text is a law", x.look(3), 1);
            Check.due("feed behind rules of '" + text + "'", x.feed(0, 0, 0, 0, 0), 20);
        }
    }

    private static void latestFault() {
        Check.about("Promise 6: Of the latest rules(): what 0 the FAULT (0 without one), 1 its place (NONE)");
        HedgeCourt x = new HedgeCourt();
        fault(x, 0, -1);
        Check.law(x, "?");
        fault(x, 1, 0);
        Check.put(x, "bend 1;");
        x.end(7);
        x.say(0, 0, 0, 0, 0, 0, 0);
        fault(x, 1, 0);
        x.rules();
        fault(x, 0, -1);
        Check.law(x, "bend 1;hold 0;");
        fault(x, 2, 12);
        Check.law(x, "bend 1;".repeat(21));
        fault(x, 3, 140);
        Check.law(x, "bend");
        fault(x, 1, 4);
        x.rules();
        fault(x, 0, -1);
    }

    private static void fault(HedgeCourt x, int fault, int place) {
        Check.due("fault(0)", x.fault(0), fault);
        Check.due("fault(1)", x.fault(1), place);
        Check.due("fault(2)", x.fault(2), -1);
        Check.due("fault(-1)", x.fault(-1), -1);
    }

    public static void main(String[] args) {
        blanks();
        letters();
        keywordsInPlace();
        digits();
        numbers();
        textEnds();
        firstByPlace();
        lines();
        laterLines();
        lawAsAtFirst();
        tapeIsEmptyThen();
        latestFault();
        Check.finish("the law is read as told, up to its bounds");
    }
}
