import java.util.function.Supplier;

/** All that shows an object's state, as one text; asked of new objects made alike, for each has 512 calls alone. */
final class Answers {
    private static final int[] YEARS = {0, 1, 2, 255, 256, 499, 500, 501, 512, 513, 700, 998, 999};
    private static final int BLANKS = 0x20202020;

    private final StringBuilder out = new StringBuilder();

    private Answers() {
    }

    static String of(Supplier<HedgeCourt> maker) {
        HedgeCourt x = maker.get();
        return "fault " + x.fault(0) + " at " + x.fault(1) + "; " + butFault(maker);
    }

    static String butFault(Supplier<HedgeCourt> maker) {
        Answers answers = new Answers();
        answers.lawAndLines(maker.get());
        answers.mowings(maker.get());
        answers.tape(maker.get());
        answers.tapeLength(maker.get());
        answers.rooms(maker.get());
        return answers.out.toString();
    }

    private void note(String what, int answer) {
        out.append(what).append(' ').append(answer).append("; ");
    }

    private void law(HedgeCourt x) {
        for (int what = 0; what < 30; what++) {
            note("look " + what, x.look(what));
        }
    }

    private void lawAndLines(HedgeCourt x) {
        law(x);
        for (int i = 0; i < 12; i++) {
            for (int what = 0; what < 5; what++) {
                note("said " + i + " " + what, x.said(i, what));
            }
        }
        for (int foot = 0; foot < 80; foot++) {
            note("straight " + foot, x.straight(foot));
        }
        for (int what = 0; what < 4; what++) {
            note("split " + what, x.split(what));
        }
        lines(x);
    }

    private void lines(HedgeCourt x) {
        note("cost", x.paper(Check.NONE));
        for (int s = 0; s < 10; s++) {
            note("paper " + s, x.paper(s));
            note("line " + s, x.line(s));
            for (int what = 0; what < 3; what++) {
                note("spells " + s + " " + what, x.spells(s, what));
            }
        }
    }

    private void mowings(HedgeCourt x) {
        for (int year : YEARS) {
            for (int s = 0; s < 10; s++) {
                note("mowed 0 " + s + " " + year, x.mowed(0, s, year));
                note("mowed 1 " + s + " " + year, x.mowed(1, s, year));
            }
        }
    }

    private void tape(HedgeCourt x) {
        note("rules", x.rules());
        note("fault", x.fault(0));
        note("place", x.fault(1));
        law(x);
    }

    private void tapeLength(HedgeCourt x) {
        note("fed", x.feed(BLANKS, BLANKS, BLANKS, BLANKS, BLANKS));
        tape(x);
    }

    /** How many sayings, mowings, protests and feeds there is still room for; and each told year as a spell. */
    private void rooms(HedgeCourt x) {
        int feeds = 0;
        while (feeds < 50 && x.feed(BLANKS, BLANKS, BLANKS, BLANKS, BLANKS) != Check.NONE) {
            feeds++;
        }
        note("room for feeds", feeds);
        x.end(0);
        note("hold 1", Check.law(x, "hold 1;"));
        lines(x);
        int sayings = 0;
        while (sayings < 20 && x.say(0, 0, 0, 0, 0, 0, 0) != Check.NONE) {
            sayings++;
        }
        note("room for sayings", sayings);
        int mowings = 0;
        while (mowings < 70 && x.mow(0, 0, 0, 0, 0)) {
            mowings++;
        }
        note("room for mowings", mowings);
        int protests = 0;
        while (protests < 30 && x.protest(4, 800 + protests)) {
            protests++;
        }
        note("room for protests", protests);
    }
}
