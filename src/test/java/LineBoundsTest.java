/** Sayings as they count and the paper line: each sentence of 'Terms' on them, at the bounds that it names. */
public final class LineBoundsTest {
    private static void dueFeet(HedgeCourt x, int i, int low, int high) {
        Check.due("said(" + i + ", 1)", x.said(i, 1), low);
        Check.due("said(" + i + ", 2)", x.said(i, 2), high);
    }

    private static void thrownDitches() {
        Check.about("Terms: throw: a ditch's FEET are so many more .. so many less else (within 0 .. 79)");
        for (int thrown = 0; thrown <= 9; thrown++) {
            for (int foot = 0; foot < 80; foot++) {
                HedgeCourt x = Check.underLaw("throw " + thrown + ";");
                x.say(2, 0, 0, foot, foot, 0, 0);
                x.say(2, 0, 0, foot, foot, 0, 1);
                int more = foot + thrown > 79 ? 79 : foot + thrown;
                int less = foot < thrown ? 0 : foot - thrown;
                dueFeet(x, 0, more, more);
                dueFeet(x, 1, less, less);
                Check.due("straight(" + more + ")", x.straight(more), more - less);
                Check.due("straight(" + less + ")", x.straight(less), more - less);
            }
        }
        HedgeCourt x = Check.underLaw("throw 9;");
        int[][] told = {{70, 70, 79, 79, 61, 61}, {69, 71, 78, 79, 60, 62}, {0, 79, 9, 79, 0, 70},
            {8, 10, 17, 19, 0, 1}, {79, 79, 79, 79, 70, 70}, {0, 0, 9, 9, 0, 0}};
        for (int i = 0; i < told.length; i++) {
            int[] t = told[i];
            x.say(2, 0, 9, t[0], t[1], 0, 0);
            x.say(2, 0, 9, t[0], t[1], 0, 1);
            dueFeet(x, 2 * i, t[2], t[3]);
            dueFeet(x, 2 * i + 1, t[4], t[5]);
        }
        // What was said stays as it was said: by another law it counts from there again.
        Check.law(x, "throw 1;");
        for (int i = 0; i < told.length; i++) {
            int[] t = told[i];
            dueFeet(x, 2 * i, Math.min(79, t[0] + 1), Math.min(79, t[1] + 1));
            dueFeet(x, 2 * i + 1, Math.max(0, t[0] - 1), Math.max(0, t[1] - 1));
        }
        Check.law(x, "");
        for (int i = 0; i < 2 * told.length; i++) {
            dueFeet(x, i, told[i / 2][0], told[i / 2][1]);
        }
    }

    private static void otherKindsAreNotThrown() {
        Check.about("Terms: A ditch has a SIDE .. (of others it does not count)");
        HedgeCourt x = Check.underLaw("throw 9;");
        int[] kinds = {0, 1, 3, 4, 5};
        for (int i = 0; i < 10; i++) {
            x.say(kinds[i / 2], 0, 9, 3, 76, 0, i % 2);
            dueFeet(x, i, 3, 76);
        }
        Check.due("straight(2)", x.straight(2), 100);
        Check.due("straight(77)", x.straight(77), 100);
    }

    private static void newerYears() {
        Check.about("Terms: newer: of SAYINGS of that KIND at a STATION those of the greatest YEAR alone count");
        for (int kind = 0; kind < 6; kind++) {
            String law = "newer " + Check.KINDS[kind] + ";";
            for (int year : new int[] {0, 1, 500, 998}) {
                dueSets(law, new int[][] {{kind, 0, 9, year}, {kind, 0, 9, year + 1}}, 0, 1023);
                dueSets(law, new int[][] {{kind, 0, 9, year + 1}, {kind, 0, 9, year}}, 1023, 0);
                dueSets(law, new int[][] {{kind, 0, 9, year}, {kind, 0, 9, year}}, 1023, 1023);
                dueSets(law, new int[][] {{kind, 0, 9, year}, {(kind + 1) % 6, 0, 9, year + 1}}, 1023, 1023);
                dueSets("newer " + Check.KINDS[(kind + 1) % 6] + ";",
                    new int[][] {{kind, 0, 9, year}, {kind, 0, 9, year + 1}}, 1023, 1023);
                dueSets("", new int[][] {{kind, 0, 9, year}, {kind, 0, 9, year + 1}}, 1023, 1023);
            }
            dueSets(law, new int[][] {{kind, 0, 9, 0}, {kind, 0, 9, 999}}, 0, 1023);
            dueSets(law, new int[][] {{kind, 0, 0, 0}}, 1);
            dueSets(law, new int[][] {{kind, 9, 9, 0}}, 512);
            // At each end of both stretches, one station farther, and none between.
            dueSets(law, new int[][] {{kind, 2, 6, 5}, {kind, 3, 5, 6}}, 4 + 64, 8 + 16 + 32);
            dueSets(law, new int[][] {{kind, 0, 4, 5}, {kind, 4, 9, 6}}, 15, 1008);
            dueSets(law, new int[][] {{kind, 0, 4, 5}, {kind, 5, 9, 6}}, 31, 992);
            dueSets(law, new int[][] {{kind, 5, 5, 5}, {kind, 4, 4, 6}, {kind, 6, 6, 7}}, 32, 16, 64);
            dueSets(law, new int[][] {{kind, 0, 9, 1}, {kind, 0, 8, 2}, {kind, 1, 8, 3}, {kind, 1, 1, 3}},
                512, 1, 510, 2);
        }
    }

    private static void dueSets(String law, int[][] sayings, int... sets) {
        HedgeCourt x = Check.underLaw(law);
        for (int[] a : sayings) {
            x.say(a[0], a[1], a[2], 10, 10, a[3], 0);
        }
        int cost = 0;
        for (int i = 0; i < sets.length; i++) {
            Check.due("said(" + i + ", 4) by '" + law + "'", x.said(i, 4), sets[i]);
            cost += Integer.bitCount(sets[i]) * 10;
        }
        Check.due("straight(0) by '" + law + "'", x.straight(0), cost);
        Check.due("straight(20) by '" + law + "'", x.straight(20), cost);
    }

    private static void weights() {
        Check.about("Terms: weight times how far the FOOT is from low .. high");
        for (int kind = 0; kind < 6; kind++) {
            for (int weight : new int[] {0, 1, 2, 19, 20}) {
                HedgeCourt x = Check.underLaw("weigh " + Check.KINDS[kind] + " " + weight + ";");
                x.say(kind, 2, 4, 30, 33, 0, 0);
                for (int foot = 0; foot < 80; foot++) {
                    int away = foot < 30 ? 30 - foot : foot > 33 ? foot - 33 : 0;
                    Check.due("straight(" + foot + ")", x.straight(foot), 3 * weight * away);
                }
                int foot = weight == 0 ? 0 : 30;
                Check.duePaper(x, 0, foot, foot, foot, foot, foot, foot, foot, foot, foot, foot);
            }
        }
        int[][] ends = {{0, 0, 0, 790}, {79, 79, 790, 0}, {0, 79, 0, 0}};
        for (int[] e : ends) {
            HedgeCourt x = new HedgeCourt();
            x.say(0, 0, 9, e[0], e[1], 0, 0);
            Check.due("straight(0)", x.straight(0), e[2]);
            Check.due("straight(79)", x.straight(79), e[3]);
            Check.due("straight(-1)", x.straight(-1), -1);
            Check.due("straight(80)", x.straight(80), -1);
            Check.due("paper(9)", x.paper(9), e[0]);
        }
    }

    private static void greatestCost() {
        Check.about("Terms: with the least COST: over STATIONS and SAYINGS: the greatest that can be");
        String law = "weigh deed 20;weigh map 20;weigh post 20;bend 9;";
        HedgeCourt x = Check.underLaw(law);
        HedgeCourt y = Check.underLaw(law);
        for (int i = 0; i < 12; i++) {
            x.say(i % 2, 0, 9, 79, 79, 0, 0);
            y.say(i % 2 * 3, 0, 9, i < 6 ? 0 : 79, i < 6 ? 0 : 79, 0, 0);
        }
        Check.due("straight(0)", x.straight(0), 189600);
        Check.duePaper(x, 0, 79, 79, 79, 79, 79, 79, 79, 79, 79, 79);
        // Every foot costs the same at every station, so the least is taken.
        Check.duePaper(y, 94800, 0, 0, 0, 0, 0, 0, 0, 0, 0, 0);
        Check.due("straight(0)", y.straight(0), 94800);
        Check.due("straight(79)", y.straight(79), 94800);
    }

    private static void bends() {
        Check.about("Terms: bend times how much the FEET of each two neighbouring STATIONS are unlike");
        for (int bend = 0; bend <= 9; bend++) {
            for (int weight = 1; weight <= 11; weight++) {
                HedgeCourt x = Check.underLaw("weigh post " + weight + ";bend " + bend + ";");
                x.say(3, 0, 0, 0, 0, 0, 0);
                x.say(3, 9, 9, 79, 79, 0, 0);
                int last = bend < weight ? 79 : 0;
                Check.duePaper(x, 79 * Math.min(bend, weight), 0, 0, 0, 0, 0, 0, 0, 0, 0, last);
                HedgeCourt y = Check.underLaw("weigh post " + weight + ";bend " + bend + ";");
                y.say(3, 0, 0, 79, 79, 0, 0);
                y.say(3, 9, 9, 0, 0, 0, 0);
                int first = bend < weight ? 79 : 0;
                Check.duePaper(y, 79 * Math.min(bend, weight), first, 0, 0, 0, 0, 0, 0, 0, 0, 0);
            }
        }
        // A station between two bends both ways: 20 feet of bending in all.
        for (int weight : new int[] {3, 4, 5}) {
            HedgeCourt x = Check.underLaw("weigh post 20;weigh word " + weight + ";bend 2;");
            x.say(3, 4, 4, 30, 30, 0, 0);
            x.say(3, 6, 6, 30, 30, 0, 0);
            x.say(4, 5, 5, 40, 40, 0, 0);
            int middle = weight > 4 ? 40 : 30;
            Check.duePaper(x, 10 * Math.min(4, weight), 30, 30, 30, 30, 30, middle, 30, 30, 30, 30);
        }
        // All the way up and down again at every station.
        HedgeCourt x = Check.underLaw("weigh deed 20;bend 9;");
        for (int s = 0; s < 10; s++) {
            x.say(0, s, s, s % 2 * 79, s % 2 * 79, 0, 0);
        }
        Check.duePaper(x, 9 * 9 * 79, 0, 79, 0, 79, 0, 79, 0, 79, 0, 79);
        Check.law(x, "weigh deed 20;bend 0;");
        Check.duePaper(x, 0, 0, 79, 0, 79, 0, 79, 0, 79, 0, 79);
    }

    private static void firstOfSeveral() {
        Check.about("Terms: Of several the first by the FEET of STATIONS 0, 1, .. (the lesser first)");
        for (int bend : new int[] {0, 1, 9}) {
            HedgeCourt x = Check.underLaw("bend " + bend + ";");
            Check.duePaper(x, 0, 0, 0, 0, 0, 0, 0, 0, 0, 0, 0);
        }
        for (int s = 0; s < 10; s++) {
            HedgeCourt x = new HedgeCourt();
            x.say(5, s, s, 20, 25, 0, 0);
            Check.duePaper(x, 0, 20, 20, 20, 20, 20, 20, 20, 20, 20, 20);
            Check.law(x, "bend 0;");
            int[] feet = new int[10];
            feet[s] = 20;
            Check.duePaper(x, 0, feet);
        }
        HedgeCourt up = new HedgeCourt();
        up.say(0, 0, 0, 30, 30, 0, 0);
        up.say(0, 1, 1, 35, 35, 0, 0);
        Check.duePaper(up, 5, 30, 30, 30, 30, 30, 30, 30, 30, 30, 30);
        HedgeCourt down = new HedgeCourt();
        down.say(0, 0, 0, 35, 35, 0, 0);
        down.say(0, 1, 1, 30, 30, 0, 0);
        Check.duePaper(down, 5, 30, 30, 30, 30, 30, 30, 30, 30, 30, 30);
        // The first station is worth more than its bend: of the rest the least feet still are taken.
        HedgeCourt kept = Check.underLaw("weigh deed 2;");
        kept.say(0, 0, 0, 35, 35, 0, 0);
        kept.say(3, 1, 1, 30, 30, 0, 0);
        Check.duePaper(kept, 5, 35, 30, 30, 30, 30, 30, 30, 30, 30, 30);
        // To rise late is first by the feet, as low as can be for as long as can be; to fall early too.
        HedgeCourt late = Check.underLaw("weigh deed 20;");
        late.say(0, 2, 2, 40, 40, 0, 0);
        late.say(0, 7, 7, 50, 60, 0, 0);
        Check.duePaper(late, 10, 40, 40, 40, 40, 40, 40, 40, 50, 50, 50);
        HedgeCourt early = Check.underLaw("weigh deed 20;");
        early.say(0, 2, 2, 50, 60, 0, 0);
        early.say(0, 7, 7, 40, 40, 0, 0);
        Check.duePaper(early, 10, 50, 50, 50, 40, 40, 40, 40, 40, 40, 40);
    }

    private static void everyFoot() {
        Check.about("Terms: THE PAPER LINE gives each STATION a FOOT 0 .. 79");
        for (int foot = 0; foot < 80; foot++) {
            int other = 79 - foot;
            HedgeCourt x = new HedgeCourt();
            x.say(0, 0, 9, foot, foot, 0, 0);
            Check.duePaper(x, 0, foot, foot, foot, foot, foot, foot, foot, foot, foot, foot);
            HedgeCourt y = Check.underLaw("bend 0;");
            y.say(0, 0, 4, foot, foot, 0, 0);
            y.say(0, 5, 9, other, other, 0, 0);
            Check.duePaper(y, 0, foot, foot, foot, foot, foot, other, other, other, other, other);
        }
    }

    private static void drawnAgain() {
        Check.about("Promise 9: THE PAPER LINE of what is said and the LAW now");
        HedgeCourt x = new HedgeCourt();
        Check.duePaper(x, 0, 0, 0);
        x.say(0, 0, 9, 10, 10, 1, 0);
        Check.duePaper(x, 0, 10, 10);
        x.say(1, 0, 9, 20, 20, 1, 0);
        Check.duePaper(x, 100, 10, 10);
        Check.law(x, "weigh map 2;");
        Check.duePaper(x, 100, 20, 20);
        Check.law(x, "weigh map 3;?");
        Check.duePaper(x, 100, 20, 20);
        x.say(0, 0, 9, 10, 10, 1000, 0);
        Check.duePaper(x, 100, 20, 20);
        Check.law(x, "");
        Check.duePaper(x, 100, 10, 10);
        Check.due("paper(-2)", x.paper(-2), -2);
        Check.due("paper(10)", x.paper(10), -2);
    }

    public static void main(String[] args) {
        thrownDitches();
        otherKindsAreNotThrown();
        newerYears();
        weights();
        greatestCost();
        bends();
        firstOfSeveral();
        everyFoot();
        drawnAgain();
        Check.finish("sayings count and the paper line runs as told, up to their bounds");
    }
}
