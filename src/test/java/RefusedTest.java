import java.util.ArrayList;
import java.util.List;
import java.util.TreeSet;
import java.util.function.Supplier;

/**
 * For each call: each number at its least and its greatest, the first one too small and the first one too large,
 * in an object of which nothing is told, one of which much is told and a full one; and, behind each refused call,
 * that nothing was done.
 */
public final class RefusedTest {
    private interface Call {
        long of(HedgeCourt x, int[] a);
    }

    private record Scene(String name, Supplier<HedgeCourt> maker) {
    }

    private static final List<Scene> SCENES = List.of(
        new Scene("nothing told", HedgeCourt::new), new Scene("much told", RefusedTest::told),
        new Scene("full", RefusedTest::full));
    private static final List<String> STATES = new ArrayList<>();

    private static final String FULL_TAPE = "weigh map 4;newer post;" + " ".repeat(370) + "bend 7;";

    private static HedgeCourt told() {
        HedgeCourt x = new HedgeCourt();
        Check.law(x, "weigh deed 3;weigh ditch 5;throw 4;hold 2;bend 2;newer map;");
        x.say(0, 0, 9, 40, 42, 100, 0);
        x.say(1, 0, 4, 30, 35, 200, 1);
        x.say(1, 3, 9, 50, 55, 300, 0);
        x.say(2, 2, 7, 38, 44, 50, 0);
        x.say(2, 5, 9, 60, 61, 51, 1);
        int[][] mowings = {{0, 60, 0}, {0, 61, 1}, {0, 70, 500}, {0, 71, 501}, {1, 10, 500}, {1, 11, 501},
            {1, 20, 998}, {1, 21, 999}, {0, 62, 999}};
        for (int[] m : mowings) {
            x.mow(m[0], 0, 9, m[1], m[2]);
        }
        x.protest(3, 1);
        x.protest(9, 0);
        x.protest(0, 499);
        x.quarrel(50, 40, 10, 12, 30, 40, 3, 2);
        Check.law(x, "hold 0;");
        Check.put(x, "weigh map 4;newer post;");
        return x;
    }

    private static HedgeCourt full() {
        HedgeCourt x = told();
        for (int i = 5; i < 12; i++) {
            x.say(i % 6, i - 5, i - 3, 30 + i, 40 + i, 10 * i, i % 2);
        }
        for (int i = 9; i < 60; i++) {
            x.mow(i % 2, i % 10, 9, 30 + i % 20, 600 + i / 4);
        }
        for (int i = 3; i < 20; i++) {
            x.protest(i % 10, 590 + i);
        }
        x.end(0);
        Check.put(x, FULL_TAPE);
        return x;
    }

    private static void dueSame(String what, Supplier<HedgeCourt> got, String want) {
        String seen = Answers.of(got);
        if (!seen.equals(want)) {
            Check.fail(what + " did something");
        }
    }

    /** The call is refused in each of the scenes from the given one on, and nothing is done. */
    private static void refuse(String what, Call call, long refused, int firstScene, int... a) {
        for (int i = firstScene; i < SCENES.size(); i++) {
            Scene scene = SCENES.get(i);
            String told = what + args(a) + " with " + scene.name;
            Check.due(told, call.of(scene.maker.get(), a), refused);
            dueSame(told, () -> {
                HedgeCourt x = scene.maker.get();
                call.of(x, a);
                return x;
            }, STATES.get(i));
        }
    }

    private static String args(int[] a) {
        StringBuilder out = new StringBuilder("(");
        for (int i = 0; i < a.length; i++) {
            out.append(i == 0 ? "" : ", ").append(a[i]);
        }
        return out.append(")").toString();
    }

    private static int[] with(int[] good, int i, int value) {
        int[] a = good.clone();
        a[i] = value;
        return a;
    }

    /** What lies outside, by one, by far, and so that a narrower number would lie inside. */
    private static TreeSet<Integer> outside(int inside, int least, int greatest) {
        TreeSet<Integer> values = new TreeSet<>();
        int[] near = {least - 1, greatest + 1, Check.LEAST, Check.MOST, inside + 256, inside - 256, inside + 65536,
            inside - 65536, inside + Check.LEAST};
        for (int value : near) {
            if (value < least || value > greatest) {
                values.add(value);
            }
        }
        return values;
    }

    /** One number after the other, while the others stay good: taken at both ends, refused beyond them. */
    private static void bounds(String name, Call call, long refused, int[] good, int[] least, int[] greatest) {
        for (int i = 0; i < good.length; i++) {
            for (int value : new int[] {least[i], greatest[i]}) {
                int[] a = with(good, i, value);
                Check.due(name + args(a) + " is taken: it", call.of(told(), a) != refused, true);
            }
            for (int value : outside(good[i], least[i], greatest[i])) {
                refuse(name, call, refused, 0, with(good, i, value));
            }
        }
    }

    private static long number(boolean answer) {
        return answer ? 1 : 0;
    }

    private static final Call SAY = (x, a) -> x.say(a[0], a[1], a[2], a[3], a[4], a[5], a[6]);
    private static final Call FEED = (x, a) -> x.feed(a[0], a[1], a[2], a[3], a[4]);
    private static final Call END = (x, a) -> number(x.end(a[0]));
    private static final Call MOW = (x, a) -> number(x.mow(a[0], a[1], a[2], a[3], a[4]));
    private static final Call PROTEST = (x, a) -> number(x.protest(a[0], a[1]));
    private static final Call QUARREL =
        (x, a) -> number(x.quarrel(a[0], a[1], a[2], a[3], a[4], a[5], a[6], a[7]));

    private static void sayings() {
        Check.about("Promise 2: NONE, and nothing is done, if one can't be");
        for (int kind = 0; kind < 6; kind++) {
            int[] good = {kind, 3, 6, 20, 30, 500, 1};
            bounds("say", SAY, -1, good, new int[] {0, 0, 3, 0, 20, 0, 0}, new int[] {5, 6, 9, 30, 79, 999, 1});
        }
        int[][] pairs = {{10, 10, 0, 0}, {-1, -1, 0, 0}, {9, 10, 0, 0}, {-1, 0, 0, 0}, {9, 0, 0, 0},
            {0, 0, 80, 80}, {0, 0, -1, -1}, {0, 0, 79, 80}, {0, 0, -1, 0}, {0, 0, 79, 0},
            {Check.MOST, Check.LEAST, 0, 0}, {0, 0, Check.MOST, Check.LEAST}};
        for (int[] p : pairs) {
            refuse("say", SAY, -1, 0, 2, p[0], p[1], p[2], p[3], 0, 0);
        }
        Check.about("Promise 2: NONE, and nothing is done, if there are 12");
        refuse("say", SAY, -1, 2, 0, 0, 0, 0, 0, 0, 0);
        refuse("say", SAY, -1, 2, 5, 0, 9, 0, 79, 999, 1);
    }

    private static void sayingsAsTold() {
        Check.about("Terms: SAYINGS 0 .. 11, numbered as they come");
        HedgeCourt x = new HedgeCourt();
        for (int i = 0; i < 12; i++) {
            int foot = i == 0 ? 0 : i == 11 ? 79 : 7 * i;
            int year = i == 0 ? 0 : i == 11 ? 999 : 83 * i;
            Check.due("look(0)", x.look(0), i);
            Check.due("said(" + i + ", 0) ahead of it", x.said(i, 0), -1);
            Check.due("say " + i, x.say(i % 6, Math.min(i, 9), 9, foot, 79, year, 0), i);
            Check.due("said(" + i + ", 0)", x.said(i, 0), i % 6);
            Check.due("said(" + i + ", 1)", x.said(i, 1), foot);
            Check.due("said(" + i + ", 2)", x.said(i, 2), 79);
            Check.due("said(" + i + ", 3)", x.said(i, 3), year);
            Check.due("said(" + i + ", 4)", x.said(i, 4), 1023 & -1 << Math.min(i, 9));
            // A refused one in between takes no number.
            Check.due("say that can't be", x.say(6, 0, 0, 0, 0, 0, 0), -1);
        }
        Check.due("a 13th", x.say(0, 0, 0, 0, 0, 0, 0), -1);
        Check.due("look(0)", x.look(0), 12);
        Check.due("said(12, 0)", x.said(12, 0), -1);
    }

    private static void feeds() {
        Check.about("Promise 3: NONE, and nothing comes, if there would be more than 400");
        int blanks = 0x20202020;
        refuse("feed", FEED, -1, 2, blanks, blanks, blanks, blanks, blanks);
        refuse("feed", FEED, -1, 2, -1, 0, Check.MOST, Check.LEAST, 1);
        for (int length = 376; length <= 400; length++) {
            int kept = length;
            Supplier<HedgeCourt> maker = () -> {
                HedgeCourt x = full();
                x.end(kept);
                return x;
            };
            Check.due("feed at " + length, FEED.of(maker.get(), new int[5]), length <= 380 ? length + 20 : -1);
            if (length > 380) {
                dueSame("feed at " + length, () -> {
                    HedgeCourt x = maker.get();
                    FEED.of(x, new int[5]);
                    return x;
                }, Answers.of(maker));
            }
        }
        HedgeCourt x = new HedgeCourt();
        for (int i = 1; i <= 20; i++) {
            Check.due("feed " + i, x.feed(-1, -1, -1, -1, -1), 20 * i);
        }
        for (int i = 0; i < 3; i++) {
            Check.due("feed on a full tape", x.feed(-1, -1, -1, -1, -1), -1);
        }
        Check.due("end(400)", x.end(400), true);
        Check.due("end(401)", x.end(401), false);
    }

    private static void fedBytes() {
        Check.about("Promise 3: Twenty bytes come behind the TAPE, of each number the highest first");
        for (int place = 0; place < 400; place++) {
            char[] text = " ".repeat(400).toCharArray();
            text[place] = (char) (place % 256 == 32 || place % 256 == 10 ? 63 : place % 256);
            Check.dueFault(new String(text), 1, place);
        }
    }

    private static void ends() {
        Check.about("Promise 4: false, changing nothing, if it has not so many, or n is below 0");
        for (int n : new int[] {-1, -2, -256, Check.LEAST}) {
            refuse("end", END, 0, 0, n);
        }
        for (int n : new int[] {401, 402, 65536, Check.MOST}) {
            refuse("end", END, 0, 0, n);
        }
        Supplier<HedgeCourt> told = RefusedTest::told;
        for (int n : new int[] {24, 25, 40, 400}) {
            Check.due("end(" + n + ") of 23", told.get().end(n), false);
            dueSame("end(" + n + ") of 23", () -> {
                HedgeCourt x = told();
                x.end(n);
                return x;
            }, Answers.of(told));
        }
        Check.due("end(1) of nothing", new HedgeCourt().end(1), false);
        Check.about("Promise 4: The TAPE has its first n bytes alone: true");
        Check.due("end(0) of nothing", new HedgeCourt().end(0), true);
        for (int n = 0; n <= 23; n++) {
            HedgeCourt x = told();
            Check.due("end(" + n + ") of 23", x.end(n), true);
            Check.due("end(" + (n + 1) + ") of " + n, x.end(n + 1), false);
            Check.due("end(" + n + ") again", x.end(n), true);
            Check.due("feed behind end(" + n + ")", x.feed(0, 0, 0, 0, 0), n + 20);
        }
        dueSame("end(23) of 23", () -> {
            HedgeCourt x = told();
            x.end(23);
            return x;
        }, Answers.of(told));
    }

    private static void faultyRules() {
        Check.about("Promise 5: NONE: a FAULT (it stays)");
        String[] texts = {"bend 9;hold", "bend 9;hold 7;newer deed;weigh map 21;", "hold 3;".repeat(21), "?"};
        int[][] faults = {{1, 11}, {2, 35}, {3, 140}, {1, 0}};
        for (Scene scene : SCENES) {
            String want = Answers.butFault(() -> {
                HedgeCourt x = scene.maker.get();
                x.end(0);
                return x;
            });
            for (int i = 0; i < texts.length; i++) {
                String text = texts[i];
                Supplier<HedgeCourt> maker = () -> {
                    HedgeCourt x = scene.maker.get();
                    x.end(0);
                    Check.due("rules of '" + text + "'", Check.law(x, text), -1);
                    return x;
                };
                Check.due("fault(0) of '" + text + "'", maker.get().fault(0), faults[i][0]);
                Check.due("fault(1) of '" + text + "'", maker.get().fault(1), faults[i][1]);
                if (!Answers.butFault(maker).equals(want)) {
                    Check.fail("rules of '" + text + "' with " + scene.name + " did more than empty the tape");
                }
            }
        }
    }

    private static void mowings() {
        Check.about("Promise 11: false, and nothing is done, if one can't be");
        for (int n = 0; n < 2; n++) {
            int[] good = {n, 3, 6, 50, 500};
            bounds("mow", MOW, 0, good, new int[] {0, 0, 3, 0, 0}, new int[] {1, 6, 9, 79, 999});
        }
        int[][] pairs = {{10, 10}, {-1, -1}, {9, 10}, {-1, 0}, {9, 0}, {Check.MOST, Check.LEAST}};
        for (int[] p : pairs) {
            refuse("mow", MOW, 0, 0, 0, p[0], p[1], 50, 500);
        }
        Check.about("Promise 11: false, and nothing is done, if there are 60");
        refuse("mow", MOW, 0, 2, 0, 0, 9, 79, 999);
        refuse("mow", MOW, 0, 2, 1, 0, 9, 0, 0);
        refuse("mow", MOW, 0, 2, 0, 4, 4, 33, 700);
        Check.about("Terms: 60 at most are told");
        HedgeCourt x = new HedgeCourt();
        for (int i = 0; i < 60; i++) {
            Check.due("look(4)", x.look(4), i);
            // The same one told again is told once more, too.
            Check.due("mow " + i, x.mow(0, 0, 9, 1, i / 2), true);
            Check.due("mow that can't be", x.mow(0, 0, 10, 1, 1), false);
        }
        Check.due("the 61st", x.mow(0, 0, 9, 2, 0), false);
        Check.due("look(4)", x.look(4), 60);
        Check.due("mowed(0, 0, 0)", x.mowed(0, 0, 0), 1);
        Check.due("mowed(0, 9, 29)", x.mowed(0, 9, 29), 1);
        Check.due("mowed(0, 9, 30)", x.mowed(0, 9, 30), -1);
    }

    private static void protests() {
        Check.about("Promise 12: false, and nothing is done, if one can't be");
        bounds("protest", PROTEST, 0, new int[] {5, 511}, new int[] {0, 0}, new int[] {9, 999});
        Check.about("Promise 12: false, and nothing is done, if it was");
        refuse("protest", PROTEST, 0, 1, 3, 1);
        refuse("protest", PROTEST, 0, 1, 9, 0);
        refuse("protest", PROTEST, 0, 1, 0, 499);
        Check.about("Promise 12: false, and nothing is done, if there are 20");
        refuse("protest", PROTEST, 0, 2, 0, 500);
        refuse("protest", PROTEST, 0, 2, 9, 999);
        refuse("protest", PROTEST, 0, 2, 4, 0);
        HedgeCourt x = new HedgeCourt();
        for (int i = 0; i < 20; i++) {
            Check.due("protest " + i, x.protest(i % 10, i / 10), true);
            // One that was takes no room, nor one that can't be.
            Check.due("protest " + i + " again", x.protest(i % 10, i / 10), false);
            Check.due("protest that can't be", x.protest(10, 0), false);
        }
        Check.due("the 21st", x.protest(0, 2), false);
        Check.due("the 20th again", x.protest(9, 1), false);
    }

    private static void quarrels() {
        Check.about("Promise 16: false, and nothing is done, if one can't be");
        int[] good = {50, 40, 50, 51, 500, 501, 50, 51};
        bounds("quarrel", QUARREL, 0, good, new int[] {41, 0, 0, 0, 0, 0, 1, 1},
            new int[] {79, 49, 99, 99, 999, 999, 99, 99});
        int[][] pairs = {{0, 0}, {79, 79}, {0, 1}, {78, 79}, {0, 79}, {80, 79}, {0, -1}, {80, -1}, {-1, -2},
            {Check.MOST, Check.LEAST}, {Check.LEAST, Check.MOST}};
        for (int[] p : pairs) {
            refuse("quarrel", QUARREL, 0, 0, p[0], p[1], 1, 1, 1, 1, 1, 1);
        }
        int[][] ends = {{79, 78}, {1, 0}, {79, 0}};
        for (int[] e : ends) {
            Check.due("quarrel" + args(e), new HedgeCourt().quarrel(e[0], e[1], 1, 1, 1, 1, 1, 1), true);
        }
    }

    private static void questionsAtTheirEnds() {
        Check.about("Promises 6 to 10, 13 to 15 and 17: the questions at their ends");
        bounds("fault", (x, a) -> x.fault(a[0]), -1, new int[] {0}, new int[] {0}, new int[] {1});
        int[][] looks = {{0, 4}, {10, 15}, {20, 25}};
        for (int[] l : looks) {
            bounds("look", (x, a) -> x.look(a[0]), -1, new int[] {l[0]}, new int[] {l[0]}, new int[] {l[1]});
        }
        bounds("paper", (x, a) -> x.paper(a[0]), -2, new int[] {0}, new int[] {-1}, new int[] {9});
        bounds("straight", (x, a) -> x.straight(a[0]), -1, new int[] {0}, new int[] {0}, new int[] {79});
        bounds("mowed", (x, a) -> x.mowed(a[0], a[1], a[2]), -1, new int[] {0, 5, 999}, new int[] {0, 0, 0},
            new int[] {1, 9, 999});
        bounds("spells", (x, a) -> x.spells(a[0], a[1]), -1, new int[] {5, 1}, new int[] {0, 0}, new int[] {9, 2});
        bounds("line", (x, a) -> x.line(a[0]), -1, new int[] {5}, new int[] {0}, new int[] {9});
        bounds("split", (x, a) -> x.split(a[0]), -1, new int[] {1}, new int[] {0}, new int[] {3});
        Call said = (x, a) -> x.said(a[0], a[1]);
        for (int i : new int[] {-1, 12, 256, Check.LEAST, Check.MOST}) {
            refuse("said", said, -1, 0, i, 0);
        }
        for (int what : new int[] {-1, 5, 256, Check.LEAST, Check.MOST}) {
            refuse("said", said, -1, 0, 0, what);
        }
        for (int what = 0; what < 5; what++) {
            Check.due("said(0, " + what + ") of none", new HedgeCourt().said(0, what), -1);
            Check.due("said(4, " + what + ") of five is one: it", told().said(4, what) >= 0, true);
            Check.due("said(5, " + what + ") of five", told().said(5, what), -1);
            Check.due("said(11, " + what + ") of twelve is one: it", full().said(11, what) >= 0, true);
        }
        Call split = (x, a) -> x.split(a[0]);
        for (int what = 0; what < 4; what++) {
            Check.due("split without a quarrel", split.of(new HedgeCourt(), new int[] {what}), -1);
        }
    }

    private static void questionsDoNothing() {
        Check.about("the questions change nothing");
        for (int i = 0; i < SCENES.size(); i++) {
            Supplier<HedgeCourt> maker = SCENES.get(i).maker;
            dueSame("asking all", () -> {
                HedgeCourt x = maker.get();
                for (int s = -2; s < 11; s++) {
                    x.look(s);
                    x.said(s, 4);
                    x.paper(s);
                    x.straight(s);
                    x.mowed(0, s, 500);
                    x.spells(s, 2);
                    x.line(s);
                    x.split(s);
                    x.fault(s);
                }
                return x;
            }, STATES.get(i));
        }
    }

    private static void twoObjects() {
        Check.about("Promise 1: Nothing is said; the LAW as at first");
        HedgeCourt other = full();
        other.rules();
        String fresh = STATES.get(0);
        dueSame("another object", HedgeCourt::new, fresh);
        HedgeCourt x = new HedgeCourt();
        int[] first = {0, 0, 12, 1, 0, -1, -1, -1, -1, -1, 1, 1, 1, 1, 1, 1, -1, -1, -1, -1, 0, 0, 0, 0, 0, 0, -1};
        for (int what = 0; what < first.length; what++) {
            Check.due("look(" + what + ")", x.look(what), first[what]);
        }
        Check.due("fault(0)", x.fault(0), 0);
        Check.due("fault(1)", x.fault(1), -1);
        Check.duePaper(x, 0, 0, 0, 0, 0, 0, 0, 0, 0, 0, 0);
        for (int s = 0; s < 10; s++) {
            Check.dueSpells(x, s, 0, 0, -1, 0);
        }
        Check.dueSplits(x, -1, -1, -1, -1);
        Check.due("straight(0)", x.straight(0), 0);
        Check.due("straight(79)", x.straight(79), 0);
        Check.due("rules() of nothing", x.rules(), 0);
        Check.due("feed", x.feed(0, 0, 0, 0, 0), 20);
    }

    private static void lastCalls() {
        Check.about("What it is: at most 512 calls after it has been made");
        HedgeCourt x = new HedgeCourt();
        for (int i = 1; i <= 170; i++) {
            Check.due("law " + i, Check.law(x, "bend " + i % 10 + ";"), 1);
        }
        Check.due("the 511th call, look(3)", x.look(3), 0);
        Check.due("the 512th call, say", x.say(5, 0, 9, 0, 79, 999, 1), 0);
    }

    public static void main(String[] args) {
        for (Scene scene : SCENES) {
            STATES.add(Answers.of(scene.maker));
        }
        twoObjects();
        sayings();
        sayingsAsTold();
        feeds();
        fedBytes();
        ends();
        faultyRules();
        mowings();
        protests();
        quarrels();
        questionsAtTheirEnds();
        questionsDoNothing();
        lastCalls();
        Check.finish("what can't be is refused, and nothing is done");
    }
}
