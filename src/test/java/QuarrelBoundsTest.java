/** Quarrels and splits: each sentence of 'Terms' on them, at the bounds that it names. */
public final class QuarrelBoundsTest {
    private static HedgeCourt quarrel(int... a) {
        HedgeCourt x = new HedgeCourt();
        Check.due("quarrel", x.quarrel(a[0], a[1], a[2], a[3], a[4], a[5], a[6], a[7]), true);
        return x;
    }

    private static void bothClaimsToo() {
        Check.about("Terms: A SPLIT at a FOOT (between both claims, they too)");
        int[][] claims = {{1, 0}, {79, 78}, {79, 0}, {50, 40}, {79, 1}, {78, 0}};
        for (int[] c : claims) {
            int wide = c[0] - c[1];
            // Ground is worth nothing: every split is fair, and all are alike.
            Check.dueSplits(quarrel(c[0], c[1], 0, 0, 0, 0, 1, 1), wide + 1, c[1], c[0], c[1]);
            Check.dueSplits(quarrel(c[0], c[1], 0, 0, 999, 999, 99, 99), wide + 1, c[1], c[0], c[1]);
            // It is worth something to one alone: the other's gain is 999 at each split, and from half the ground
            // on the one's gain is no less.
            Check.dueSplits(quarrel(c[0], c[1], 1, 0, 999, 999, 1, 1), wide + 1, c[1], c[0], c[1] + (wide + 1) / 2);
            Check.dueSplits(quarrel(c[0], c[1], 0, 1, 999, 999, 1, 1), wide + 1, c[1], c[0], c[1]);
        }
    }

    private static void exactShares() {
        Check.about("Terms: worth as much at least as what it may hope for in court (exactly)");
        for (int p = 1; p <= 78; p++) {
            // 79 feet by a share of p in 79: exactly p feet to 0, and exactly the rest to 1.
            Check.dueSplits(quarrel(79, 0, 99, 99, 0, 0, p, 79 - p), 1, p, p, p);
            Check.dueSplits(quarrel(79, 0, 1, 1, 0, 0, p, 79 - p), 1, p, p, p);
        }
        for (int p = 1; p <= 79; p++) {
            // By a share of p in 80 no foot is enough for both; costs make it enough, and costs of one less do not.
            Check.dueSplits(quarrel(79, 0, 80, 80, 0, 0, p, 80 - p), 0, -1, -1, -1);
            Check.dueSplits(quarrel(79, 0, 80, 80, 79 - p, 0, p, 80 - p), 0, -1, -1, -1);
            Check.dueSplits(quarrel(79, 0, 80, 80, 80 - p, 0, p, 80 - p), 1, p - 1, p - 1, p - 1);
            Check.dueSplits(quarrel(79, 0, 80, 80, 0, p - 1, p, 80 - p), 0, -1, -1, -1);
            Check.dueSplits(quarrel(79, 0, 80, 80, 0, p, p, 80 - p), 1, p, p, p);
        }
        // One foot of 99 by 99 and 98 in 197: 49.75 and 49.25 are hoped for, so costs of 50 are enough, 49 are not.
        Check.dueSplits(quarrel(41, 40, 99, 99, 49, 49, 99, 98), 0, -1, -1, -1);
        Check.dueSplits(quarrel(41, 40, 99, 99, 50, 49, 99, 98), 1, 40, 40, 40);
        Check.dueSplits(quarrel(41, 40, 99, 99, 49, 50, 99, 98), 1, 41, 41, 41);
        // One part of p + q less than hoped for is not enough, one more is.
        Check.dueSplits(quarrel(41, 40, 1, 1, 0, 0, 1, 1), 0, -1, -1, -1);
        Check.dueSplits(quarrel(41, 40, 2, 0, 1, 0, 99, 98), 1, 41, 41, 41);
        Check.dueSplits(quarrel(41, 40, 0, 2, 0, 1, 98, 99), 1, 40, 40, 40);
        Check.dueSplits(quarrel(41, 40, 2, 0, 1, 0, 98, 99), 2, 40, 41, 40);
        Check.dueSplits(quarrel(41, 40, 0, 2, 0, 1, 99, 98), 2, 40, 41, 40);
        Check.about("Terms: the greatest lesser gain of both: by less than a whole");
        Check.dueSplits(quarrel(41, 40, 99, 99, 50, 50, 99, 98), 2, 40, 41, 41);
        Check.dueSplits(quarrel(41, 40, 99, 99, 50, 50, 98, 99), 2, 40, 41, 40);
    }

    private static void costs() {
        Check.about("Terms: WORTH times the feet it would win there, by its share of p + q, less its costs");
        // Ten feet of 10 each by 1 in 2: to each 50 less its costs. The costs, then the answers due if they are
        // neighbour 0's, then those if they are neighbour 1's.
        int[][] rows = {
            {0, 1, 45, 45, 45, 1, 45, 45, 45}, {9, 1, 45, 45, 45, 1, 45, 45, 45}, {10, 2, 44, 45, 44, 2, 45, 46, 45},
            {11, 2, 44, 45, 44, 2, 45, 46, 46}, {49, 5, 41, 45, 43, 5, 45, 49, 47}, {50, 6, 40, 45, 42, 6, 45, 50, 47},
            {51, 6, 40, 45, 42, 6, 45, 50, 48}, {100, 6, 40, 45, 40, 6, 45, 50, 50}, {999, 6, 40, 45, 40, 6, 45, 50, 50},
        };
        for (int[] r : rows) {
            Check.dueSplits(quarrel(50, 40, 10, 10, r[0], 0, 1, 1), r[1], r[2], r[3], r[4]);
            Check.dueSplits(quarrel(50, 40, 10, 10, 0, r[0], 1, 1), r[5], r[6], r[7], r[8]);
        }
        Check.about("Terms: WORTH 0 .. 99; court costs each 0 .. 999; p, q 1 .. 99: at their ends");
        // 79 feet of 99 by 99 in 100, less 999: 6743.79, which is more than 68 feet and less than 69.
        Check.dueSplits(quarrel(79, 0, 99, 99, 999, 999, 99, 1), 11, 69, 79, 78);
        Check.dueSplits(quarrel(79, 0, 99, 99, 999, 999, 1, 99), 11, 0, 10, 1);
        Check.dueSplits(quarrel(79, 0, 99, 99, 999, 999, 99, 99), 20, 30, 49, 39);
        Check.dueSplits(quarrel(79, 0, 99, 99, 0, 0, 99, 99), 0, -1, -1, -1);
        Check.dueSplits(quarrel(79, 0, 99, 0, 0, 0, 99, 1), 1, 79, 79, 79);
        Check.dueSplits(quarrel(79, 0, 0, 99, 0, 0, 1, 99), 1, 0, 0, 0);
    }

    private static void stays() {
        Check.about("Promise 16: (It stays till another one.)");
        HedgeCourt x = quarrel(50, 40, 10, 10, 100, 100, 1, 1);
        Check.dueSplits(x, 11, 40, 50, 45);
        x.say(0, 0, 9, 10, 10, 0, 0);
        Check.law(x, "weigh deed 7;hold 1;");
        x.mow(0, 0, 9, 70, 5);
        Check.dueSplits(x, 11, 40, 50, 45);
        Check.due("quarrel that can't be", x.quarrel(50, 40, 10, 10, 0, 0, 1, 0), false);
        Check.dueSplits(x, 11, 40, 50, 45);
        Check.due("quarrel", x.quarrel(79, 0, 99, 99, 0, 0, 1, 1), true);
        Check.dueSplits(x, 0, -1, -1, -1);
        Check.due("quarrel that can't be", x.quarrel(40, 50, 10, 10, 100, 100, 1, 1), false);
        Check.dueSplits(x, 0, -1, -1, -1);
        Check.due("quarrel", x.quarrel(1, 0, 0, 0, 0, 0, 1, 1), true);
        Check.dueSplits(x, 2, 0, 1, 0);
    }

    private static void noSuchSplit() {
        Check.about("Promise 17: NONE: without a QUARREL, for 1 .. 3 if none is FAIR, or another what");
        Check.dueSplits(new HedgeCourt(), -1, -1, -1, -1);
        HedgeCourt refused = new HedgeCourt();
        Check.due("quarrel that can't be", refused.quarrel(40, 40, 1, 1, 1, 1, 1, 1), false);
        Check.dueSplits(refused, -1, -1, -1, -1);
        HedgeCourt[] courts = {new HedgeCourt(), quarrel(79, 0, 99, 99, 0, 0, 1, 1), quarrel(1, 0, 0, 0, 0, 0, 1, 1)};
        for (HedgeCourt x : courts) {
            for (int what : new int[] {-2, -1, 4, 5, Check.LEAST, Check.MOST}) {
                Check.due("split(" + what + ")", x.split(what), -1);
            }
        }
        Check.dueSplits(courts[1], 0, -1, -1, -1);
        Check.dueSplits(courts[2], 2, 0, 1, 0);
    }

    public static void main(String[] args) {
        bothClaimsToo();
        exactShares();
        costs();
        stays();
        noSuchSplit();
        Check.finish("quarrels are split as told, up to their bounds");
    }
}
