/** Texts of the law in great number, read by the class and by the slow model: all short ones, and all small slips. */
public final class LawModelTest {
    private static final String[] TOKENS = {"weigh", "throw", "hold", "bend", "newer", "deed", "survey", "words", "0",
        "9", "10", "20", "21", "100", ";", "?"};
    private static final String LONG_LAW = "weigh survey 20;".repeat(19);

    private static void same(String text) {
        HedgeCourt court = new HedgeCourt();
        Model model = new Model();
        for (int[] a : Check.feeds(text)) {
            court.feed(a[0], a[1], a[2], a[3], a[4]);
            model.feed(a);
        }
        Check.due("end", court.end(text.length()) ? 1 : 0, model.end(text.length()));
        Check.about("'" + text + "'");
        Check.due("rules()", court.rules(), model.rules());
        Check.due("fault(0)", court.fault(0), model.fault(0));
        Check.due("fault(1)", court.fault(1), model.fault(1));
        for (int what = 0; what < 26; what++) {
            Check.due("look(" + what + ")", court.look(what), model.look(what));
        }
    }

    /** Every row of up to so many tokens more, alone and as the 20th line and what follows it. */
    private static void rows(String row, int more, String blanks) {
        same(row);
        same(LONG_LAW + row);
        for (int i = 0; i < TOKENS.length && more > 0; i++) {
            rows(row + blanks + TOKENS[i], more - 1, blanks);
        }
    }

    /** One byte less, one byte more and one byte other, at each place. */
    private static void slips(String text) {
        for (int place = 0; place <= text.length(); place++) {
            String head = text.substring(0, place);
            String tail = text.substring(place);
            String behind = tail.isEmpty() ? "" : tail.substring(1);
            same(head + behind);
            same(head);
            for (int sign = 0; sign < 256; sign++) {
                same(head + (char) sign + tail);
                same(head + (char) sign + behind);
            }
        }
    }

    public static void main(String[] args) {
        rows("", 4, " ");
        rows("", 3, "");
        rows("", 3, "\n ");
        slips("weigh deed 20;newer map;hold 9;");
        slips("throw 9;\nbend 0 ;weigh ditch 07;");
        Check.finish("the class reads the law as the model does");
    }
}
