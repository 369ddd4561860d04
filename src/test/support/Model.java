import java.util.ArrayList;
import java.util.Arrays;
import java.util.List;
import java.util.Map;
import java.util.TreeMap;
import java.util.regex.Matcher;
import java.util.regex.Pattern;

/** A slow court in the document's own words: all is worked out anew at each question, unlike in the class. */
final class Model {
    private static final List<String> KINDS = List.of(Check.KINDS);

    private final List<int[]> sayings = new ArrayList<>();
    private final List<int[]> mowings = new ArrayList<>();
    private final List<List<Integer>> protests = new ArrayList<>();
    private StringBuilder tape = new StringBuilder();
    private Map<String, Integer> law = first();
    private int fault = 0;
    private int faultPlace = -1;
    private int[] quarrel = null;

    private static Map<String, Integer> first() {
        Map<String, Integer> law = new TreeMap<>(Map.of("throw", 0, "hold", 12, "bend", 1));
        for (String k : KINDS) {
            law.put("weigh " + k, 1);
            law.put("newer " + k, 0);
        }
        return law;
    }

    private static boolean in(int x, int low, int high) {
        return low <= x && x <= high;
    }

    int say(int[] a) {
        boolean can = in(a[0], 0, 5) && in(a[1], 0, 9) && in(a[2], a[1], 9) && in(a[3], 0, 79)
            && in(a[4], a[3], 79) && in(a[5], 0, 999) && in(a[6], 0, 1);
        if (!can || sayings.size() == 12) {
            return -1;
        }
        sayings.add(a.clone());
        return sayings.size() - 1;
    }

    int feed(int[] a) {
        if (tape.length() + 20 > 400) {
            return -1;
        }
        for (int number : a) {
            tape.append((char) (number >>> 24)).append((char) (number >>> 16 & 255));
            tape.append((char) (number >>> 8 & 255)).append((char) (number & 255));
        }
        return tape.length();
    }

    int end(int n) {
        if (!in(n, 0, tape.length())) {
            return 0;
        }
        tape.setLength(n);
        return 1;
    }

    int rules() {
        String text = tape.toString();
        tape = new StringBuilder();
        List<String> tokens = new ArrayList<>();
        List<Integer> places = new ArrayList<>();
        Matcher m = Pattern.compile("[a-zA-Z]+|[0-9]+|[^ \n]").matcher(text);
        while (m.find()) {
            tokens.add(m.group());
            places.add(m.start());
        }
        tokens.add("");
        places.add(text.length());
        Map<String, Integer> told = first();
        int lines = 0;
        fault = 0;
        faultPlace = -1;
        int at = 0;
        while (!tokens.get(at).isEmpty()) {
            String verb = tokens.get(at);
            String form = switch (verb) {
                case "weigh" -> "KN;";
                case "newer" -> "K;";
                case "hold", "bend", "throw" -> "N;";
                default -> null;
            };
            if (form == null || lines == 20) {
                return fail(form == null ? 1 : 3, places.get(at));
            }
            String key = verb;
            int number = 1;
            for (char part : form.toCharArray()) {
                at++;
                String t = tokens.get(at);
                boolean stands = part == 'K' ? KINDS.contains(t)
                    : part == 'N' ? t.matches("[0-9]{1,2}") : t.equals(";");
                if (!stands) {
                    return fail(1, places.get(at));
                }
                if (part == 'K') {
                    key = verb + " " + t;
                }
                if (part == 'N') {
                    number = Integer.parseInt(t);
                    int most = verb.equals("weigh") ? 20 : verb.equals("hold") ? 99 : 9;
                    if (number > most || verb.equals("hold") && number == 0) {
                        return fail(2, places.get(at));
                    }
                }
            }
            told.put(key, number);
            lines++;
            at++;
        }
        law = told;
        return lines;
    }

    private int fail(int what, int place) {
        fault = what;
        faultPlace = place;
        return -1;
    }

    int fault(int what) {
        return what == 0 ? fault : what == 1 ? faultPlace : -1;
    }

    int look(int what) {
        if (in(what, 10, 15)) {
            return law.get("weigh " + KINDS.get(what - 10));
        }
        if (in(what, 20, 25)) {
            return law.get("newer " + KINDS.get(what - 20));
        }
        return switch (what) {
            case 0 -> sayings.size();
            case 1 -> law.get("throw");
            case 2 -> law.get("hold");
            case 3 -> law.get("bend");
            case 4 -> mowings.size();
            default -> -1;
        };
    }

    private int foot(int[] saying, int which) {
        int by = saying[0] != 2 ? 0 : saying[6] == 0 ? law.get("throw") : -law.get("throw");
        return Math.min(79, Math.max(0, saying[which] + by));
    }

    private boolean counts(int[] saying, int s) {
        if (!in(s, saying[1], saying[2])) {
            return false;
        }
        int newest = sayings.stream().filter(o -> o[0] == saying[0] && in(s, o[1], o[2])).mapToInt(o -> o[5]).max().orElse(-1);
        return law.get("newer " + KINDS.get(saying[0])) == 0 || saying[5] == newest;
    }

    int said(int i, int what) {
        if (!in(i, 0, sayings.size() - 1)) {
            return -1;
        }
        int[] saying = sayings.get(i);
        int set = 0;
        for (int s = 0; s < 10; s++) {
            set += counts(saying, s) ? 1 << s : 0;
        }
        return switch (what) {
            case 0 -> saying[0];
            case 1 -> foot(saying, 3);
            case 2 -> foot(saying, 4);
            case 3 -> saying[5];
            case 4 -> set;
            default -> -1;
        };
    }

    private int[] misses(int s) {
        int[] cost = new int[80];
        for (int[] saying : sayings) {
            if (counts(saying, s)) {
                for (int f = 0; f < 80; f++) {
                    int away = f < foot(saying, 3) ? foot(saying, 3) - f : f > foot(saying, 4) ? f - foot(saying, 4) : 0;
                    cost[f] += law.get("weigh " + KINDS.get(saying[0])) * away;
                }
            }
        }
        return cost;
    }

    /** From the first station on, with the whole line up to each foot: cost first, then the feet. */
    private int[] paper() {
        int[][] best = new int[80][];
        for (int s = 0; s < 10; s++) {
            int[] cost = misses(s);
            int[][] next = new int[80][];
            for (int f = 0; f < 80; f++) {
                for (int g = 0; g < (s == 0 ? 1 : 80); g++) {
                    int[] path = new int[s + 2];
                    if (s > 0) {
                        System.arraycopy(best[g], 0, path, 0, s + 1);
                        path[0] += law.get("bend") * Math.abs(f - g);
                    }
                    path[0] += cost[f];
                    path[s + 1] = f;
                    if (next[f] == null || Arrays.compare(path, next[f]) < 0) {
                        next[f] = path;
                    }
                }
            }
            best = next;
        }
        return Arrays.stream(best).min(Arrays::compare).get();
    }

    int paper(int s) {
        return in(s, -1, 9) ? paper()[s + 1] : -2;
    }

    int straight(int foot) {
        if (!in(foot, 0, 79)) {
            return -1;
        }
        int sum = 0;
        for (int s = 0; s < 10; s++) {
            sum += misses(s)[foot];
        }
        return sum;
    }

    int mow(int[] a) {
        boolean can = in(a[0], 0, 1) && in(a[1], 0, 9) && in(a[2], a[1], 9) && in(a[3], 0, 79) && in(a[4], 0, 999);
        if (!can || mowings.size() == 60) {
            return 0;
        }
        mowings.add(a.clone());
        return 1;
    }

    int protest(int s, int year) {
        if (!in(s, 0, 9) || !in(year, 0, 999) || protests.contains(List.of(s, year)) || protests.size() == 20) {
            return 0;
        }
        protests.add(List.of(s, year));
        return 1;
    }

    int mowed(int n, int s, int year) {
        int foot = -1;
        for (int[] a : mowings) {
            if (a[0] == n && in(s, a[1], a[2]) && a[4] == year) {
                foot = a[3];
            }
        }
        return foot;
    }

    private int[] trueLine(int s) {
        int paper = paper()[s + 1];
        int hold = law.get("hold");
        int[][] mowed = new int[2][1000];
        for (int[] row : mowed) {
            Arrays.fill(row, -1);
        }
        for (int[] a : mowings) {
            if (in(s, a[1], a[2])) {
                mowed[a[0]][a[4]] = a[3];
            }
        }
        int[] out = {0, 0, -1, paper};
        for (int last = hold - 1; last < 1000; last++) {
            for (int n = 0; n < 2; n++) {
                int near = 1000;
                for (int y = last; y > last - hold; y--) {
                    int beyond = n == 0 ? mowed[n][y] - paper : paper - mowed[n][y];
                    boolean good = mowed[n][y] >= 0 && beyond > 0 && !protests.contains(List.of(s, y));
                    near = good ? Math.min(near, beyond) : -1;
                    if (!good) {
                        break;
                    }
                }
                if (near > 0) {
                    out[n]++;
                    int foot = n == 0 ? paper + near : paper - near;
                    if (n == 0 && foot > out[3] || n == 1 && foot < out[3]) {
                        out[3] = foot;
                        out[2] = last;
                    }
                }
            }
        }
        return out;
    }

    int spells(int s, int what) {
        return in(s, 0, 9) && in(what, 0, 2) ? trueLine(s)[what] : -1;
    }

    int line(int s) {
        return in(s, 0, 9) ? trueLine(s)[3] : -1;
    }

    int quarrel(int[] a) {
        boolean can = in(a[0], 0, 79) && in(a[1], 0, 79) && a[0] > a[1] && in(a[2], 0, 99) && in(a[3], 0, 99)
            && in(a[4], 0, 999) && in(a[5], 0, 999) && in(a[6], 1, 99) && in(a[7], 1, 99);
        if (can) {
            quarrel = a.clone();
        }
        return can ? 1 : 0;
    }

    int split(int what) {
        if (quarrel == null || !in(what, 0, 3)) {
            return -1;
        }
        int[] a = quarrel;
        long all = a[6] + a[7];
        long wide = a[0] - a[1];
        List<Integer> fair = new ArrayList<>();
        long best = -1;
        int fairest = -1;
        for (int f = a[1]; f <= a[0]; f++) {
            long mine = a[2] * (f - a[1]) * all - (a[2] * wide * a[6] - a[4] * all);
            long other = a[3] * (a[0] - f) * all - (a[3] * wide * a[7] - a[5] * all);
            if (mine >= 0 && other >= 0) {
                fair.add(f);
                if (Math.min(mine, other) > best) {
                    best = Math.min(mine, other);
                    fairest = f;
                }
            }
        }
        if (what == 0 || fair.isEmpty()) {
            return what == 0 ? fair.size() : -1;
        }
        return what == 1 ? fair.get(0) : what == 2 ? fair.get(fair.size() - 1) : fairest;
    }
}
