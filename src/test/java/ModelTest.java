import java.util.Arrays;
import java.util.Random;

/** Runs of calls from fixed seeds, answered by the class and by the slow model. */
public final class ModelTest {
    private static final int RUNS = 120;
    private static final int CALLS = 512;
    private static final int CALLS_OF_ONE_LAW = 24;

    private final Random random;
    private final int run;
    private final HedgeCourt court = new HedgeCourt();
    private final Model model = new Model();
    private final int holdMost;
    private int call = 0;

    private ModelTest(int run) {
        this.run = run;
        random = new Random(run);
        holdMost = 1 + random.nextInt(5);
    }

    private int pick(int low, int high) {
        return low + random.nextInt(high - low + 1);
    }

    /** Mostly within low .. high, now and then just outside or far away. */
    private int near(int low, int high) {
        int dice = random.nextInt(60);
        return dice == 0 ? low - 1 : dice == 1 ? high + 1 : dice == 2 ? random.nextInt() : pick(low, high);
    }

    private void same(String what, int got, int want) {
        call++;
        Check.about("run " + run + ", call " + call);
        Check.due(what, got, want);
    }

    private String lawText() {
        StringBuilder text = new StringBuilder();
        int lines = random.nextInt(12) == 0 ? pick(18, 24) : pick(0, 7);
        for (int i = 0; i < lines; i++) {
            String kind = Check.KINDS[pick(0, 5)];
            text.append(switch (lines > 10 ? pick(2, 4) : pick(0, 4)) {
                case 0 -> "weigh " + kind + " " + near(0, 20);
                case 1 -> "throw " + near(0, 9);
                case 2 -> "hold " + near(1, holdMost);
                case 3 -> "bend " + near(0, 9);
                default -> "newer " + kind;
            });
            text.append(random.nextInt(3) == 0 ? " ;\n" : ";");
        }
        for (int faults = random.nextInt(4) - 2; faults > 0 && text.length() > 0; faults--) {
            int place = random.nextInt(text.length());
            String signs = ";; 0123456789abdehnortw\nXZ.\u00ff\u0000\t";
            switch (pick(0, 2)) {
                case 0 -> text.deleteCharAt(place);
                case 1 -> text.insert(place, signs.charAt(random.nextInt(signs.length())));
                default -> text.setCharAt(place, signs.charAt(random.nextInt(signs.length())));
            }
        }
        return text.length() > 400 ? text.substring(0, 400) : text.toString();
    }

    private void feedText(String text) {
        for (int[] a : Check.feeds(text)) {
            same("feed", court.feed(a[0], a[1], a[2], a[3], a[4]), model.feed(a));
        }
        int n = near(text.length(), text.length());
        same("end(" + n + ")", court.end(n) ? 1 : 0, model.end(n));
    }

    private void legislate() {
        String text = lawText();
        feedText(text);
        same("rules of '" + text + "'", court.rules(), model.rules());
        same("fault(0) of '" + text + "'", court.fault(0), model.fault(0));
        same("fault(1) of '" + text + "'", court.fault(1), model.fault(1));
    }

    private void sayOne() {
        int from = near(0, 9);
        int low = near(0, 79);
        int[] a = {near(0, 5), from, from + near(0, 5), low, low + near(0, 9), near(0, 999), near(0, 1)};
        if (random.nextInt(3) == 0) {
            a[5] = pick(500, 502);
        }
        same("say" + Arrays.toString(a), court.say(a[0], a[1], a[2], a[3], a[4], a[5], a[6]), model.say(a));
    }

    private void mowOne() {
        int from = near(0, 9);
        int[] a = {near(0, 1), from, from + near(0, 6), near(0, 79), random.nextInt(9) == 0 ? near(990, 999) : near(0, 9)};
        same("mow" + Arrays.toString(a), court.mow(a[0], a[1], a[2], a[3], a[4]) ? 1 : 0, model.mow(a));
    }

    private void protestOne() {
        int s = near(0, 9);
        int year = random.nextInt(3) == 0 ? near(0, 999) : near(0, 9);
        same("protest", court.protest(s, year) ? 1 : 0, model.protest(s, year));
    }

    private void quarrelOne() {
        int claim1 = near(0, 60);
        int[] a = {claim1 + near(1, 19), claim1, near(0, 99), near(0, 99), near(0, 999), near(0, 999), near(1, 99), near(1, 99)};
        if (random.nextBoolean()) {
            a[4] = near(0, 30);
            a[5] = near(0, 30);
        }
        same("quarrel" + Arrays.toString(a), court.quarrel(a[0], a[1], a[2], a[3], a[4], a[5], a[6], a[7]) ? 1 : 0, model.quarrel(a));
        for (int what = 0; what < 4; what++) {
            same("split(" + what + ") of " + Arrays.toString(a), court.split(what), model.split(what));
        }
    }

    private void ask() {
        int s = near(0, 9);
        int what = near(0, 4);
        int i = near(0, 11);
        int n = near(0, 1);
        int year = near(0, 9);
        switch (pick(0, 7)) {
            case 0 -> same("look(" + i + ")", court.look(i), model.look(i));
            case 1 -> same("look of kinds", court.look(10 + 10 * (n & 1) + i % 6), model.look(10 + 10 * (n & 1) + i % 6));
            case 2 -> same("said(" + i + ", " + what + ")", court.said(i, what), model.said(i, what));
            case 3 -> same("paper(" + s + ")", court.paper(s), model.paper(s));
            case 4 -> same("straight(" + (s * 8 + what) + ")", court.straight(s * 8 + what), model.straight(s * 8 + what));
            case 5 -> same("mowed(" + n + ", " + s + ", " + year + ")", court.mowed(n, s, year), model.mowed(n, s, year));
            case 6 -> same("spells(" + s + ", " + what + ")", court.spells(s, what), model.spells(s, what));
            default -> same("line(" + s + ")", court.line(s), model.line(s));
        }
    }

    private void go() {
        while (call + CALLS_OF_ONE_LAW <= CALLS) {
            int dice = random.nextInt(100);
            if (dice < 6) {
                legislate();
            } else if (dice < 14) {
                sayOne();
            } else if (dice < 40) {
                mowOne();
            } else if (dice < 44) {
                protestOne();
            } else if (dice < 50) {
                quarrelOne();
            } else {
                ask();
            }
        }
        while (call < CALLS) {
            ask();
        }
    }

    public static void main(String[] args) {
        for (int run = 1; run <= RUNS; run++) {
            new ModelTest(run).go();
        }
        Check.finish("the class answers as the model");
    }
}
