import java.nio.charset.StandardCharsets;

/** What the project's tests share: counting the answers that are not due, and telling a law by its text. */
final class Check {
    static final int LEAST = Integer.MIN_VALUE;
    static final int MOST = Integer.MAX_VALUE;
    static final int NONE = HedgeCourt.NONE;
    static final String[] KINDS = {"deed", "map", "ditch", "post", "word", "survey"};

    private static int wrong = 0;
    private static String about = "";

    private Check() {
    }

    /** Names the sentence or promise that the answers from here on are due by. */
    static void about(String sentence) {
        about = sentence;
    }

    static void due(String what, long got, long want) {
        if (got != want) {
            fail(what + " answered " + got + ", due is " + want);
        }
    }

    static void due(String what, boolean got, boolean want) {
        due(what, got ? 1 : 0, want ? 1 : 0);
    }

    static void fail(String what) {
        wrong++;
        System.out.println(about + ": " + what);
    }

    static void finish(String good) {
        System.out.println(wrong == 0 ? good : wrong + " answers are not as due");
        if (wrong != 0) {
            System.exit(1);
        }
    }

    /** The text as it is fed, twenty bytes a call, the last ones filled up with zeros. */
    static int[][] feeds(String text) {
        byte[] bytes = text.getBytes(StandardCharsets.ISO_8859_1);
        int[][] rows = new int[(bytes.length + 19) / 20][5];
        for (int i = 0; i < bytes.length; i++) {
            rows[i / 20][i % 20 / 4] |= (bytes[i] & 255) << (24 - 8 * (i % 4));
        }
        return rows;
    }

    /** Puts the text on an empty tape. */
    static void put(HedgeCourt x, String text) {
        for (int[] row : feeds(text)) {
            x.feed(row[0], row[1], row[2], row[3], row[4]);
        }
        x.end(text.length());
    }

    static int law(HedgeCourt x, String text) {
        put(x, text);
        return x.rules();
    }

    static HedgeCourt underLaw(String text) {
        HedgeCourt x = new HedgeCourt();
        due("rules of '" + text + "' is a law: it", law(x, text) >= 0, true);
        return x;
    }

    static void dueLaw(String text, int lines) {
        HedgeCourt x = new HedgeCourt();
        due("rules of '" + text + "'", law(x, text), lines);
        due("fault(0) of '" + text + "'", x.fault(0), 0);
        due("fault(1) of '" + text + "'", x.fault(1), NONE);
    }

    static void dueFault(String text, int fault, int place) {
        HedgeCourt x = new HedgeCourt();
        due("rules of '" + text + "'", law(x, text), NONE);
        due("fault(0) of '" + text + "'", x.fault(0), fault);
        due("fault(1) of '" + text + "'", x.fault(1), place);
    }

    static void duePaper(HedgeCourt x, int cost, int... feet) {
        due("paper(NONE)", x.paper(NONE), cost);
        for (int s = 0; s < feet.length; s++) {
            due("paper(" + s + ")", x.paper(s), feet[s]);
        }
    }

    /** Spells of neighbour 0 and of 1, the last year that moved the line, and the true line. */
    static void dueSpells(HedgeCourt x, int s, int... want) {
        for (int what = 0; what < 3; what++) {
            due("spells(" + s + ", " + what + ")", x.spells(s, what), want[what]);
        }
        due("line(" + s + ")", x.line(s), want[3]);
    }

    static void dueSplits(HedgeCourt x, int... want) {
        for (int what = 0; what < 4; what++) {
            due("split(" + what + ")", x.split(what), want[what]);
        }
    }
}
