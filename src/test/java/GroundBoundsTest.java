/** Mowing, protests, spells and the true line: each sentence of 'Terms' on them, at the bounds that it names. */
public final class GroundBoundsTest {
    /** A court whose paper line runs at the foot everywhere. */
    private static HedgeCourt court(int foot, String law) {
        HedgeCourt x = Check.underLaw(law);
        x.say(0, 0, 9, foot, foot, 0, 0);
        return x;
    }

    /** Neighbour n mows station 5 up to the feet, one year behind the other. */
    private static void mowYears(HedgeCourt x, int n, int firstYear, int... feet) {
        for (int i = 0; i < feet.length; i++) {
            Check.due("mow in " + (firstYear + i), x.mow(n, 5, 5, feet[i], firstYear + i), true);
        }
    }

    private static int[] times(int foot, int years) {
        int[] feet = new int[years];
        java.util.Arrays.fill(feet, foot);
        return feet;
    }

    private static void mowedStations() {
        Check.about("Terms: MOWED: in a YEAR a NEIGHBOUR mowed STATIONS from .. to up to a FOOT");
        for (int n = 0; n < 2; n++) {
            for (int year : new int[] {0, 1, 500, 998, 999}) {
                for (int foot : new int[] {0, 1, 78, 79}) {
                    HedgeCourt x = new HedgeCourt();
                    x.mow(n, 3, 6, foot, year);
                    for (int s = 0; s < 10; s++) {
                        Check.due("mowed at " + s, x.mowed(n, s, year), s >= 3 && s <= 6 ? foot : -1);
                        Check.due("mowed by the other", x.mowed(1 - n, s, year), -1);
                        Check.due("mowed a year before", x.mowed(n, s, year - 1), -1);
                        Check.due("mowed a year later", x.mowed(n, s, year + 1), -1);
                    }
                }
            }
        }
        for (int s = 0; s < 10; s++) {
            HedgeCourt x = new HedgeCourt();
            x.mow(0, s, s, 7, 7);
            Check.due("mowed there", x.mowed(0, s, 7), 7);
            Check.due("mowed before it", x.mowed(0, s - 1, 7), -1);
            Check.due("mowed behind it", x.mowed(0, s + 1, 7), -1);
        }
    }

    private static void latestCounts() {
        Check.about("Terms: of one YEAR, STATION and NEIGHBOUR the latest counts");
        HedgeCourt x = court(40, "hold 1;");
        x.mow(0, 0, 9, 60, 100);
        x.mow(0, 5, 5, 50, 100);
        x.mow(1, 5, 5, 30, 100);
        x.mow(0, 5, 5, 70, 101);
        Check.due("mowed(0, 4, 100)", x.mowed(0, 4, 100), 60);
        Check.due("mowed(0, 5, 100)", x.mowed(0, 5, 100), 50);
        Check.due("mowed(0, 6, 100)", x.mowed(0, 6, 100), 60);
        Check.due("mowed(1, 5, 100)", x.mowed(1, 5, 100), 30);
        Check.due("mowed(0, 5, 101)", x.mowed(0, 5, 101), 70);
        Check.dueSpells(x, 4, 1, 0, 100, 60);
        Check.dueSpells(x, 5, 2, 1, 101, 70);
        x.mow(0, 0, 9, 40, 101);
        Check.dueSpells(x, 5, 1, 1, 100, 30);
        x.mow(1, 5, 9, 0, 100);
        Check.dueSpells(x, 5, 1, 1, 100, 0);
        x.mow(1, 5, 5, 79, 100);
        Check.dueSpells(x, 5, 1, 0, 100, 50);
        x.mow(0, 5, 5, 0, 100);
        Check.dueSpells(x, 5, 0, 0, -1, 40);
        Check.due("mowed up to foot 0", x.mowed(0, 5, 100), 0);
        Check.due("look(4): each was told", x.look(4), 8);
        for (int i = 8; i < 60; i++) {
            x.mow(0, 5, 5, 41 + i % 2, 100);
        }
        Check.due("mow, the 61st", x.mow(0, 5, 5, 79, 100), false);
        Check.dueSpells(x, 5, 1, 0, 100, 42);
    }

    private static void holdYears() {
        Check.about("Terms: A SPELL of NEIGHBOUR n at a STATION: hold YEARS one behind the other");
        for (int hold : new int[] {1, 2, 3, 11, 12, 13, 29, 30}) {
            for (int years = hold - 1; years <= hold + 2 && years <= 30; years++) {
                int won = Math.max(0, years - hold + 1);
                for (int first : new int[] {0, 1, 500, 999 - years, 1000 - years}) {
                    HedgeCourt x = court(40, "hold " + hold + ";");
                    mowYears(x, 0, first, times(41, years));
                    Check.dueSpells(x, 5, won, 0, won > 0 ? first + hold - 1 : -1, won > 0 ? 41 : 40);
                    Check.dueSpells(x, 4, 0, 0, -1, 40);
                    Check.dueSpells(x, 6, 0, 0, -1, 40);
                    HedgeCourt y = court(40, "hold " + hold + ";");
                    mowYears(y, 1, first, times(39, years));
                    Check.dueSpells(y, 5, 0, won, won > 0 ? first + hold - 1 : -1, won > 0 ? 39 : 40);
                }
            }
        }
        Check.about("Terms: hold: YEARS that make ground one's own (12 at first)");
        HedgeCourt x = court(40, "");
        mowYears(x, 0, 100, times(41, 11));
        Check.dueSpells(x, 5, 0, 0, -1, 40);
        mowYears(x, 0, 111, 41);
        Check.dueSpells(x, 5, 1, 0, 111, 41);
        mowYears(x, 0, 112, 41);
        Check.dueSpells(x, 5, 2, 0, 111, 41);
    }

    private static void longestHold() {
        Check.about("Terms: hold YEARS one behind the other: as many as can be told, and more");
        int[][] want = {{58, 3}, {59, 2}, {60, 1}, {61, 0}, {98, 0}, {99, 0}};
        for (int[] w : want) {
            for (int first : new int[] {0, 1, 500, 940}) {
                allYears(first, 0, w[0], w[1]);
                allYears(first, 1, w[0], w[1]);
            }
        }
    }

    /** Sixty years on end, told from the last one back, for the order of telling says nothing. */
    private static void allYears(int first, int n, int hold, int won) {
        HedgeCourt x = court(40, "hold " + hold + ";");
        int foot = n == 0 ? 41 : 39;
        for (int year = first + 59; year >= first; year--) {
            Check.due("mow in " + year, x.mow(n, 5, 5, foot, year), true);
        }
        dueWon(x, n, won, first + hold - 1, foot);
    }

    private static void gaps() {
        Check.about("Terms: YEARS one behind the other");
        HedgeCourt x = court(40, "hold 3;");
        mowYears(x, 0, 10, 50, 50);
        mowYears(x, 0, 13, 50, 50);
        Check.dueSpells(x, 5, 0, 0, -1, 40);
        mowYears(x, 1, 12, 30);
        Check.dueSpells(x, 5, 0, 0, -1, 40);
        x.mow(0, 4, 4, 50, 12);
        x.mow(0, 6, 6, 50, 12);
        Check.dueSpells(x, 5, 0, 0, -1, 40);
        mowYears(x, 0, 12, 50);
        Check.dueSpells(x, 5, 3, 0, 12, 50);
        Check.about("Terms: YEARS 0 .. 999: the last and the first are no neighbours");
        HedgeCourt y = court(40, "hold 2;");
        mowYears(y, 0, 999, 50);
        mowYears(y, 0, 0, 50);
        Check.dueSpells(y, 5, 0, 0, -1, 40);
        mowYears(y, 0, 998, 51);
        Check.dueSpells(y, 5, 1, 0, 999, 50);
        mowYears(y, 0, 1, 45);
        Check.dueSpells(y, 5, 2, 0, 999, 50);
        Check.law(y, "hold 3;");
        Check.dueSpells(y, 5, 0, 0, -1, 40);
    }

    private static void beyond() {
        Check.about("Terms: beyond THE PAPER LINE there (NEIGHBOUR 0: up to a greater FOOT; 1: up to a lesser one)");
        for (int paper : new int[] {0, 1, 40, 78, 79}) {
            for (int foot = 0; foot < 80; foot++) {
                HedgeCourt x = court(paper, "hold 1;");
                mowYears(x, 0, 0, foot);
                boolean won = foot > paper;
                Check.dueSpells(x, 5, won ? 1 : 0, 0, won ? 0 : -1, won ? foot : paper);
                HedgeCourt y = court(paper, "hold 1;");
                mowYears(y, 1, 999, foot);
                boolean lost = foot < paper;
                Check.dueSpells(y, 5, 0, lost ? 1 : 0, lost ? 999 : -1, lost ? foot : paper);
            }
        }
        Check.about("Terms: in each of which n mowed it beyond THE PAPER LINE");
        for (int year = 10; year < 13; year++) {
            HedgeCourt x = court(40, "hold 3;");
            mowYears(x, 0, 10, 45, 45, 45);
            mowYears(x, 0, year, 40);
            Check.dueSpells(x, 5, 0, 0, -1, 40);
            mowYears(x, 0, year, 41);
            Check.dueSpells(x, 5, 1, 0, 12, 41);
            HedgeCourt y = court(40, "hold 3;");
            mowYears(y, 1, 10, 35, 35, 35);
            mowYears(y, 1, year, 40);
            Check.dueSpells(y, 5, 0, 0, -1, 40);
            mowYears(y, 1, year, 39);
            Check.dueSpells(y, 5, 0, 1, 12, 39);
        }
    }

    private static void protested() {
        Check.about("Terms: and none of which was PROTESTED there");
        for (int n = 0; n < 2; n++) {
            int foot = n == 0 ? 45 : 35;
            for (int year = 8; year <= 14; year++) {
                int won = year >= 10 && year <= 12 ? 0 : 1;
                for (int s = 4; s <= 6; s++) {
                    HedgeCourt before = court(40, "hold 3;");
                    Check.due("protest", before.protest(s, year), true);
                    mowYears(before, n, 10, foot, foot, foot);
                    dueWon(before, n, s == 5 ? won : 1, 12, foot);
                    HedgeCourt behind = court(40, "hold 3;");
                    mowYears(behind, n, 10, foot, foot, foot);
                    dueWon(behind, n, 1, 12, foot);
                    Check.due("protest", behind.protest(s, year), true);
                    dueWon(behind, n, s == 5 ? won : 1, 12, foot);
                    Check.due("mowed stays told", behind.mowed(n, 5, 11), foot);
                }
            }
            for (int year : new int[] {0, 999}) {
                HedgeCourt x = court(40, "hold 1;");
                mowYears(x, n, year, foot);
                dueWon(x, n, 1, year, foot);
                x.protest(5, 999 - year);
                dueWon(x, n, 1, year, foot);
                x.protest(5, year);
                dueWon(x, n, 0, year, foot);
            }
        }
        HedgeCourt x = court(40, "hold 3;");
        mowYears(x, 0, 10, times(45, 7));
        mowYears(x, 1, 10, times(35, 7));
        x.protest(5, 13);
        Check.dueSpells(x, 5, 2, 2, 16, 35);
        x.protest(5, 12);
        Check.dueSpells(x, 5, 1, 1, 16, 35);
        x.protest(5, 16);
        Check.dueSpells(x, 5, 0, 0, -1, 40);
        Check.law(x, "hold 1;");
        Check.dueSpells(x, 5, 4, 4, 15, 35);
    }

    private static void dueWon(HedgeCourt x, int n, int won, int year, int foot) {
        Check.dueSpells(x, 5, n == 0 ? won : 0, n == 1 ? won : 0, won > 0 ? year : -1, won > 0 ? foot : 40);
    }

    private static void lastProtests() {
        Check.about("Promise 12: the 20th protest still counts, the 21st does not");
        HedgeCourt x = court(40, "hold 1;");
        for (int i = 0; i < 21; i++) {
            Check.due("protest " + i, x.protest(5, 100 + i), i < 20);
        }
        mowYears(x, 0, 99, times(45, 23));
        Check.dueSpells(x, 5, 3, 0, 99, 45);
        mowYears(x, 0, 120, 46);
        mowYears(x, 0, 119, 47);
        Check.dueSpells(x, 5, 3, 0, 120, 46);
    }

    private static void nearestFoot() {
        Check.about("Terms: It wins the ground up to the FOOT of those YEARS that is nearest to THE PAPER LINE");
        int[] feet = {60, 50, 55, 57, 58};
        int[][] want = {{0, -1, 0}, {0, -1, 0}, {1, 12, 10}, {2, 12, 10}, {3, 14, 15}};
        HedgeCourt x = court(40, "hold 3;");
        HedgeCourt y = court(40, "hold 3;");
        for (int i = 0; i < feet.length; i++) {
            mowYears(x, 0, 10 + i, feet[i]);
            mowYears(y, 1, 10 + i, 80 - feet[i]);
            Check.dueSpells(x, 5, want[i][0], 0, want[i][1], 40 + want[i][2]);
            Check.dueSpells(y, 5, 0, want[i][0], want[i][1], 40 - want[i][2]);
        }
        // The nearest may be the first, the middle or the last of the years; the year ahead of them is none.
        int[][] runs = {{41, 50, 51}, {51, 41, 50}, {50, 51, 41}};
        for (int i = 0; i < runs.length; i++) {
            HedgeCourt z = court(40, "hold 3;");
            mowYears(z, 0, 10, runs[i]);
            Check.dueSpells(z, 5, 1, 0, 12, 41);
            mowYears(z, 0, 13, 52);
            Check.dueSpells(z, 5, 2, 0, i == 0 ? 13 : 12, i == 0 ? 50 : 41);
        }
    }

    private static void orderOfSpells() {
        Check.about("Terms: SPELLS, by their last YEARS, the earlier first (of like ones NEIGHBOUR 0's first)");
        int[][] want = {{4, 50}, {5, 30}, {6, 30}};
        for (int[] w : want) {
            HedgeCourt x = court(40, "hold 1;");
            mowYears(x, 1, w[0], 30);
            mowYears(x, 0, 5, 50);
            Check.dueSpells(x, 5, 1, 1, Math.max(5, w[0]), w[1]);
            HedgeCourt y = court(40, "hold 1;");
            mowYears(y, 0, 5, 50);
            mowYears(y, 1, w[0], 30);
            Check.dueSpells(y, 5, 1, 1, Math.max(5, w[0]), w[1]);
        }
        // By the last years, though 0's spell has begun before 1's.
        HedgeCourt x = court(40, "hold 2;");
        mowYears(x, 0, 10, 50, 50, 50);
        mowYears(x, 1, 10, 30, 30);
        Check.dueSpells(x, 5, 2, 1, 12, 50);
        mowYears(x, 1, 12, 30);
        Check.dueSpells(x, 5, 2, 2, 12, 30);
    }

    private static void moves() {
        Check.about("Terms: each bring it there if NEIGHBOUR 0's FOOT is above it, 1's below it");
        for (int step = -1; step <= 1; step++) {
            HedgeCourt x = court(40, "hold 1;");
            mowYears(x, 0, 5, 50, 50 + step);
            Check.dueSpells(x, 5, 2, 0, step > 0 ? 6 : 5, step > 0 ? 51 : 50);
            HedgeCourt y = court(40, "hold 1;");
            mowYears(y, 1, 5, 30, 30 - step);
            Check.dueSpells(y, 5, 0, 2, step > 0 ? 6 : 5, step > 0 ? 29 : 30);
        }
        Check.about("Terms: (SPELLS are those beyond THE PAPER LINE, whatever others did.)");
        for (int foot = 39; foot <= 41; foot++) {
            HedgeCourt x = court(40, "hold 1;");
            mowYears(x, 1, 5, 30);
            mowYears(x, 0, 6, foot);
            Check.dueSpells(x, 5, foot > 40 ? 1 : 0, 1, foot > 40 ? 6 : 5, foot > 40 ? 41 : 30);
            HedgeCourt y = court(40, "hold 1;");
            mowYears(y, 0, 5, 50);
            mowYears(y, 1, 6, foot);
            Check.dueSpells(y, 5, 1, foot < 40 ? 1 : 0, foot < 40 ? 6 : 5, foot < 40 ? 39 : 50);
        }
        Check.about("Promise 14: what 2 the last YEAR of the last one that moved the line (NONE)");
        HedgeCourt x = court(40, "hold 1;");
        Check.dueSpells(x, 5, 0, 0, -1, 40);
        mowYears(x, 0, 0, 79);
        Check.dueSpells(x, 5, 1, 0, 0, 79);
        mowYears(x, 1, 999, 0);
        Check.dueSpells(x, 5, 1, 1, 999, 0);
    }

    private static void anotherPaperLine() {
        Check.about("Terms: THE TRUE LINE at a STATION: of the paper line and the hold that are now");
        HedgeCourt x = court(40, "hold 1;");
        x.mow(0, 0, 9, 45, 5);
        x.mow(1, 0, 9, 43, 6);
        for (int s = 0; s < 10; s++) {
            Check.dueSpells(x, s, 1, 0, 5, 45);
        }
        x.say(0, 0, 9, 44, 44, 0, 0);
        x.say(0, 0, 9, 44, 44, 0, 0);
        Check.dueSpells(x, 0, 1, 1, 6, 43);
        x.say(0, 0, 9, 45, 45, 0, 0);
        x.say(0, 0, 9, 45, 45, 0, 0);
        x.say(0, 0, 9, 45, 45, 0, 0);
        Check.law(x, "hold 1;bend 0;");
        x.say(1, 9, 9, 45, 45, 0, 0);
        Check.dueSpells(x, 8, 1, 1, 6, 43);
        Check.dueSpells(x, 9, 0, 1, 6, 43);
        // With a bend that costs, station 9 draws the others along: 44 and 45 are alike to those.
        Check.law(x, "hold 2;");
        Check.dueSpells(x, 0, 0, 0, -1, 45);
        Check.due("faulty rules", Check.law(x, "hold 1;hold 0;"), -1);
        Check.dueSpells(x, 0, 0, 0, -1, 45);
        Check.due("line(-1)", x.line(-1), -1);
        Check.due("line(10)", x.line(10), -1);
    }

    public static void main(String[] args) {
        mowedStations();
        latestCounts();
        holdYears();
        longestHold();
        gaps();
        beyond();
        protested();
        lastProtests();
        nearestFoot();
        orderOfSpells();
        moves();
        anotherPaperLine();
        Check.finish("ground is won and kept as told, up to the bounds");
    }
}
