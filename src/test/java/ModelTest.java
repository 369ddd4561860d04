import java.nio.charset.StandardCharsets;
import java.util.ArrayList;
import java.util.Arrays;
import java.util.List;
import java.util.Map;
import java.util.Random;
import java.util.TreeMap;
import java.util.regex.Matcher;
import java.util.regex.Pattern;

/** Runs of calls from a fixed seed, answered by the class and by a slow model in the document's own words. */
public final class ModelTest {
    private static final List<String> KINDS = List.of("deed", "map", "ditch", "post", "word", "survey");
    private static final int RUNS = 120;
    private static final int CALLS = 500;

    /** Everything is worked out anew at each question, in ways unlike those of the class. */
    private static final class Model {
        final List<int[]> sayings = new ArrayList<>();
        final List<int[]> mowings = new ArrayList<>();
        final List<List<Integer>> protests = new ArrayList<>();
        StringBuilder tape = new StringBuilder();
        Map<String, Integer> law = first();
        int fault = 0;
        int faultPlace = -1;
        int[] quarrel = null;

        static Map<String, Integer> first() {
            Map<String, Integer> law = new TreeMap<>(Map.of("throw", 0, "hold", 12, "bend", 1));
            for (String k : KINDS) {
                law.put("weigh " + k, 1);
                law.put("newer " + k, 0);
            }
            return law;
        }

        static boolean in(int x, int low, int high) {
            return low <= x && x <= high;
        }

        int say(int[] a) {
            boolean can = in(a[0], 0, 5) && in(a[1], 0, 9) && in(a[2], a[1], 9) && in(a[3], 0, 79)
                && in(a[4], a[3], 79) && in(a[5], 0, 999) && in(a[6], 0, 1);
            if (!can || sayings.size() == 12) {
                return -1;
            }
            sayings.add(a.clone());
            return sayings.size() - 1;
        }

        int feed(int[] a) {
            if (tape.length() + 20 > 400) {
                return -1;
            }
            for (int number : a) {
                tape.append((char) (number >>> 24)).append((char) (number >>> 16 & 255));
                tape.append((char) (number >>> 8 & 255)).append((char) (number & 255));
            }
            return tape.length();
        }

        int end(int n) {
            if (!in(n, 0, tape.length())) {
                return 0;
            }
            tape.setLength(n);
            return 1;
        }

        int rules() {
            String text = tape.toString();
            tape = new StringBuilder();
            List<String> tokens = new ArrayList<>();
            List<Integer> places = new ArrayList<>();
            Matcher m = Pattern.compile("[a-zA-Z]+|[0-9]+|[^ \n]").matcher(text);
            while (m.find()) {
                tokens.add(m.group());
                places.add(m.start());
            }
            tokens.add("");
            places.add(text.length());
            Map<String, Integer> told = first();
            int lines = 0;
            fault = 0;
            faultPlace = -1;
            int at = 0;
            while (!tokens.get(at).isEmpty()) {
                String verb = tokens.get(at);
                String form = switch (verb) {
                    case "weigh" -> "KN;";
                    case "newer" -> "K;";
                    case "hold", "bend", "throw" -> "N;";
                    default -> null;
                };
                if (form == null || lines == 20) {
                    return fail(form == null ? 1 : 3, places.get(at));
                }
                String key = verb;
                int number = 1;
                for (char part : form.toCharArray()) {
                    at++;
                    String t = tokens.get(at);
                    boolean stands = part == 'K' ? KINDS.contains(t) : part == 'N' ? t.matches("[0-9]{1,2}") : t.equals(";");
                    if (!stands) {
                        return fail(1, places.get(at));
                    }
                    if (part == 'K') {
                        key = verb + " " + t;
                    }
                    if (part == 'N') {
                        number = Integer.parseInt(t);
                        int most = verb.equals("weigh") ? 20 : verb.equals("hold") ? 99 : 9;
                        if (number > most || verb.equals("hold") && number == 0) {
                            return fail(2, places.get(at));
                        }
                    }
                }
                told.put(key, number);
                lines++;
                at++;
            }
            law = told;
            return lines;
        }

        int fail(int what, int place) {
            fault = what;
            faultPlace = place;
            return -1;
        }

        int fault(int what) {
            return what == 0 ? fault : what == 1 ? faultPlace : -1;
        }

        int look(int what) {
            if (in(what, 10, 15)) {
                return law.get("weigh " + KINDS.get(what - 10));
            }
            if (in(what, 20, 25)) {
                return law.get("newer " + KINDS.get(what - 20));
            }
            return switch (what) {
                case 0 -> sayings.size();
                case 1 -> law.get("throw");
                case 2 -> law.get("hold");
                case 3 -> law.get("bend");
                case 4 -> mowings.size();
                default -> -1;
            };
        }

        int foot(int[] saying, int which) {
            int by = saying[0] != 2 ? 0 : saying[6] == 0 ? law.get("throw") : -law.get("throw");
            return Math.min(79, Math.max(0, saying[which] + by));
        }

        boolean counts(int[] saying, int s) {
            if (!in(s, saying[1], saying[2])) {
                return false;
            }
            int newest = sayings.stream().filter(o -> o[0] == saying[0] && in(s, o[1], o[2])).mapToInt(o -> o[5]).max().orElse(-1);
            return law.get("newer " + KINDS.get(saying[0])) == 0 || saying[5] == newest;
        }

        int said(int i, int what) {
            if (!in(i, 0, sayings.size() - 1)) {
                return -1;
            }
            int[] saying = sayings.get(i);
            int set = 0;
            for (int s = 0; s < 10; s++) {
                set += counts(saying, s) ? 1 << s : 0;
            }
            return switch (what) {
                case 0 -> saying[0];
                case 1 -> foot(saying, 3);
                case 2 -> foot(saying, 4);
                case 3 -> saying[5];
                case 4 -> set;
                default -> -1;
            };
        }

        int[] misses(int s) {
            int[] cost = new int[80];
            for (int[] saying : sayings) {
                if (counts(saying, s)) {
                    for (int f = 0; f < 80; f++) {
                        int away = f < foot(saying, 3) ? foot(saying, 3) - f : f > foot(saying, 4) ? f - foot(saying, 4) : 0;
                        cost[f] += law.get("weigh " + KINDS.get(saying[0])) * away;
                    }
                }
            }
            return cost;
        }

        /** From the first station on, with the whole line up to each foot: cost first, then the feet. */
        int[] paper() {
            int[][] best = new int[80][];
            for (int s = 0; s < 10; s++) {
                int[] cost = misses(s);
                int[][] next = new int[80][];
                for (int f = 0; f < 80; f++) {
                    for (int g = 0; g < (s == 0 ? 1 : 80); g++) {
                        int[] path = new int[s + 2];
                        if (s > 0) {
                            System.arraycopy(best[g], 0, path, 0, s + 1);
                            path[0] += law.get("bend") * Math.abs(f - g);
                        }
                        path[0] += cost[f];
                        path[s + 1] = f;
                        if (next[f] == null || Arrays.compare(path, next[f]) < 0) {
                            next[f] = path;
                        }
                    }
                }
                best = next;
            }
            return Arrays.stream(best).min(Arrays::compare).get();
        }

        int paper(int s) {
            return in(s, -1, 9) ? paper()[s + 1] : -2;
        }

        int straight(int foot) {
            if (!in(foot, 0, 79)) {
                return -1;
            }
            int sum = 0;
            for (int s = 0; s < 10; s++) {
                sum += misses(s)[foot];
            }
            return sum;
        }

        int mow(int[] a) {
            boolean can = in(a[0], 0, 1) && in(a[1], 0, 9) && in(a[2], a[1], 9) && in(a[3], 0, 79) && in(a[4], 0, 999);
            if (!can || mowings.size() == 60) {
                return 0;
            }
            mowings.add(a.clone());
            return 1;
        }

        int protest(int s, int year) {
            if (!in(s, 0, 9) || !in(year, 0, 999) || protests.contains(List.of(s, year)) || protests.size() == 20) {
                return 0;
            }
            protests.add(List.of(s, year));
            return 1;
        }

        int mowed(int n, int s, int year) {
            int foot = -1;
            for (int[] a : mowings) {
                if (a[0] == n && in(s, a[1], a[2]) && a[4] == year) {
                    foot = a[3];
                }
            }
            return foot;
        }

        int[] trueLine(int s) {
            int paper = paper()[s + 1];
            int hold = law.get("hold");
            int[][] mowed = new int[2][1000];
            for (int[] row : mowed) {
                Arrays.fill(row, -1);
            }
            for (int[] a : mowings) {
                if (in(s, a[1], a[2])) {
                    mowed[a[0]][a[4]] = a[3];
                }
            }
            int[] out = {0, 0, -1, paper};
            for (int last = hold - 1; last < 1000; last++) {
                for (int n = 0; n < 2; n++) {
                    int near = 1000;
                    for (int y = last; y > last - hold; y--) {
                        int beyond = n == 0 ? mowed[n][y] - paper : paper - mowed[n][y];
                        boolean good = mowed[n][y] >= 0 && beyond > 0 && !protests.contains(List.of(s, y));
                        near = good ? Math.min(near, beyond) : -1;
                        if (!good) {
                            break;
                        }
                    }
                    if (near > 0) {
                        out[n]++;
                        int foot = n == 0 ? paper + near : paper - near;
                        if (n == 0 && foot > out[3] || n == 1 && foot < out[3]) {
                            out[3] = foot;
                            out[2] = last;
                        }
                    }
                }
            }
            return out;
        }

        int spells(int s, int what) {
            return in(s, 0, 9) && in(what, 0, 2) ? trueLine(s)[what] : -1;
        }

        int line(int s) {
            return in(s, 0, 9) ? trueLine(s)[3] : -1;
        }

        int quarrel(int[] a) {
            boolean can = in(a[0], 0, 79) && in(a[1], 0, 79) && a[0] > a[1] && in(a[2], 0, 99) && in(a[3], 0, 99)
                && in(a[4], 0, 999) && in(a[5], 0, 999) && in(a[6], 1, 99) && in(a[7], 1, 99);
            if (can) {
                quarrel = a.clone();
            }
            return can ? 1 : 0;
        }

        int split(int what) {
            if (quarrel == null || !in(what, 0, 3)) {
                return -1;
            }
            int[] a = quarrel;
            long all = a[6] + a[7];
            long wide = a[0] - a[1];
            List<Integer> fair = new ArrayList<>();
            long best = -1;
            int fairest = -1;
            for (int f = a[1]; f <= a[0]; f++) {
                long mine = a[2] * (f - a[1]) * all - (a[2] * wide * a[6] - a[4] * all);
                long other = a[3] * (a[0] - f) * all - (a[3] * wide * a[7] - a[5] * all);
                if (mine >= 0 && other >= 0) {
                    fair.add(f);
                    if (Math.min(mine, other) > best) {
                        best = Math.min(mine, other);
                        fairest = f;
                    }
                }
            }
            if (what == 0 || fair.isEmpty()) {
                return what == 0 ? fair.size() : -1;
            }
            return what == 1 ? fair.get(0) : what == 2 ? fair.get(fair.size() - 1) : fairest;
        }
    }

    private final Random random;
    private final int run;
    private final HedgeCourt court = new HedgeCourt();
    private final Model model = new Model();
    private final int holdMost;
    private int wrong = 0;
    private int call = 0;

    private ModelTest(int run) {
        this.run = run;
        random = new Random(run);
        holdMost = 1 + random.nextInt(5);
    }

    private int pick(int low, int high) {
        return low + random.nextInt(high - low + 1);
    }

    /** Mostly within low .. high, now and then just outside or far away. */
    private int near(int low, int high) {
        int dice = random.nextInt(60);
        return dice == 0 ? low - 1 : dice == 1 ? high + 1 : dice == 2 ? random.nextInt() : pick(low, high);
    }

    private void same(String what, int got, int want) {
        call++;
        if (got != want) {
            wrong++;
            System.out.println("run " + run + ", call " + call + ": " + what + " answered " + got + ", due is " + want);
        }
    }

    private String lawText() {
        StringBuilder text = new StringBuilder();
        int lines = random.nextInt(12) == 0 ? pick(18, 24) : pick(0, 7);
        for (int i = 0; i < lines; i++) {
            String kind = KINDS.get(pick(0, 5));
            text.append(switch (lines > 10 ? pick(2, 4) : pick(0, 4)) {
                case 0 -> "weigh " + kind + " " + near(0, 20);
                case 1 -> "throw " + near(0, 9);
                case 2 -> "hold " + near(1, holdMost);
                case 3 -> "bend " + near(0, 9);
                default -> "newer " + kind;
            });
            text.append(random.nextInt(3) == 0 ? " ;\n" : ";");
        }
        for (int faults = random.nextInt(4) - 2; faults > 0 && text.length() > 0; faults--) {
            int place = random.nextInt(text.length());
            String signs = ";; 0123456789abdehnortw\nXZ.\u00ff\u0000\t";
            switch (pick(0, 2)) {
                case 0 -> text.deleteCharAt(place);
                case 1 -> text.insert(place, signs.charAt(random.nextInt(signs.length())));
                default -> text.setCharAt(place, signs.charAt(random.nextInt(signs.length())));
            }
        }
        return text.length() > 400 ? text.substring(0, 400) : text.toString();
    }

    private void feedText(String text) {
        byte[] bytes = Arrays.copyOf(text.getBytes(StandardCharsets.ISO_8859_1), (text.length() + 19) / 20 * 20);
        for (int at = 0; at < bytes.length; at += 20) {
            int[] a = new int[5];
            for (int i = 0; i < 20; i++) {
                a[i / 4] = a[i / 4] << 8 | bytes[at + i] & 255;
            }
            same("feed", court.feed(a[0], a[1], a[2], a[3], a[4]), model.feed(a));
        }
        int n = near(text.length(), text.length());
        same("end(" + n + ")", court.end(n) ? 1 : 0, model.end(n));
    }

    private void legislate() {
        String text = lawText();
        feedText(text);
        same("rules of '" + text + "'", court.rules(), model.rules());
        same("fault(0) of '" + text + "'", court.fault(0), model.fault(0));
        same("fault(1) of '" + text + "'", court.fault(1), model.fault(1));
    }

    private void sayOne() {
        int from = near(0, 9);
        int low = near(0, 79);
        int[] a = {near(0, 5), from, from + near(0, 5), low, low + near(0, 9), near(0, 999), near(0, 1)};
        if (random.nextInt(3) == 0) {
            a[5] = pick(500, 502);
        }
        same("say" + Arrays.toString(a), court.say(a[0], a[1], a[2], a[3], a[4], a[5], a[6]), model.say(a));
    }

    private void mowOne() {
        int from = near(0, 9);
        int[] a = {near(0, 1), from, from + near(0, 6), near(0, 79), random.nextInt(9) == 0 ? near(990, 999) : near(0, 9)};
        same("mow" + Arrays.toString(a), court.mow(a[0], a[1], a[2], a[3], a[4]) ? 1 : 0, model.mow(a));
    }

    private void protestOne() {
        int s = near(0, 9);
        int year = random.nextInt(3) == 0 ? near(0, 999) : near(0, 9);
        same("protest", court.protest(s, year) ? 1 : 0, model.protest(s, year));
    }

    private void quarrelOne() {
        int claim1 = near(0, 60);
        int[] a = {claim1 + near(1, 19), claim1, near(0, 99), near(0, 99), near(0, 999), near(0, 999), near(1, 99), near(1, 99)};
        if (random.nextBoolean()) {
            a[4] = near(0, 30);
            a[5] = near(0, 30);
        }
        same("quarrel" + Arrays.toString(a), court.quarrel(a[0], a[1], a[2], a[3], a[4], a[5], a[6], a[7]) ? 1 : 0, model.quarrel(a));
        for (int what = 0; what < 4; what++) {
            same("split(" + what + ") of " + Arrays.toString(a), court.split(what), model.split(what));
        }
    }

    private void ask() {
        int s = near(0, 9);
        int what = near(0, 4);
        int i = near(0, 11);
        int n = near(0, 1);
        int year = near(0, 9);
        switch (pick(0, 7)) {
            case 0 -> same("look(" + i + ")", court.look(i), model.look(i));
            case 1 -> same("look of kinds", court.look(10 + 10 * (n & 1) + i % 6), model.look(10 + 10 * (n & 1) + i % 6));
            case 2 -> same("said(" + i + ", " + what + ")", court.said(i, what), model.said(i, what));
            case 3 -> same("paper(" + s + ")", court.paper(s), model.paper(s));
            case 4 -> same("straight(" + (s * 8 + what) + ")", court.straight(s * 8 + what), model.straight(s * 8 + what));
            case 5 -> same("mowed(" + n + ", " + s + ", " + year + ")", court.mowed(n, s, year), model.mowed(n, s, year));
            case 6 -> same("spells(" + s + ", " + what + ")", court.spells(s, what), model.spells(s, what));
            default -> same("line(" + s + ")", court.line(s), model.line(s));
        }
    }

    private int go() {
        while (call < CALLS) {
            int dice = random.nextInt(100);
            if (dice < 6) {
                legislate();
            } else if (dice < 14) {
                sayOne();
            } else if (dice < 40) {
                mowOne();
            } else if (dice < 44) {
                protestOne();
            } else if (dice < 50) {
                quarrelOne();
            } else {
                ask();
            }
        }
        return wrong;
    }

    public static void main(String[] args) {
        int wrong = 0;
        for (int run = 1; run <= RUNS; run++) {
            wrong += new ModelTest(run).go();
        }
        System.out.println(wrong == 0 ? "the class answers as the model" : wrong + " answers are unlike the model's");
        if (wrong != 0) {
            System.exit(1);
        }
    }
}
