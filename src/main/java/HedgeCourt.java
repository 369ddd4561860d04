import java.util.ArrayList;
import java.util.Arrays;

/** A court of hedges: sayings of a line, the law that weighs them, ground won by mowing, and fair splits. */
public final class HedgeCourt {
    public static final int NONE = -1;

    private static final int STATIONS = 10;
    private static final int FEET = 80;
    private static final int YEARS = 1000;
    private static final int NEIGHBOURS = 2;
    private static final int KINDS = 6;
    private static final int DITCH = 2;
    private static final int MOST_SAYINGS = 12;
    private static final int MOST_MOWINGS = 60;
    private static final int MOST_PROTESTS = 20;
    private static final int MOST_LINES = 20;
    private static final int MOST_BYTES = 400;
    private static final int FED_BYTES = 20;

    private final ArrayList<Saying> sayings;
    private final Tape tape;
    private final LawReader reader;
    private final PaperLine paperLine;
    private final Mowings mowings;
    private final Protests protests;
    private final TrueLine trueLine;
    private final Quarrel latestQuarrel;
    private Law law;
    private Law draft;
    private boolean drawn;

    public HedgeCourt() {
        sayings = new ArrayList<Saying>();
        tape = new Tape();
        reader = new LawReader(tape);
        paperLine = new PaperLine();
        mowings = new Mowings();
        protests = new Protests();
        trueLine = new TrueLine(mowings, protests);
        latestQuarrel = new Quarrel();
        law = new Law();
        draft = new Law();
        drawn = false;
    }

    public int say(int kind, int from, int to, int low, int high, int year, int side) {
        boolean possible = below(kind, KINDS) && isStretch(from, to, STATIONS) && isStretch(low, high, FEET)
            && below(year, YEARS) && below(side, NEIGHBOURS);
        if (!possible || sayings.size() >= MOST_SAYINGS) {
            return NONE;
        }
        sayings.add(new Saying(kind, from, to, low, high, year, side));
        drawn = false;
        return sayings.size() - 1;
    }

    public int feed(int a, int b, int c, int d, int e) {
        if (tape.length > MOST_BYTES - FED_BYTES) {
            return NONE;
        }
        tape.append(a);
        tape.append(b);
        tape.append(c);
        tape.append(d);
        tape.append(e);
        return tape.length;
    }

    public boolean end(int n) {
        return tape.cut(n);
    }

    public int rules() {
        reader.read(draft);
        tape.cut(0);
        if (reader.fault != 0) {
            return NONE;
        }
        Law former = law;
        law = draft;
        draft = former;
        drawn = false;
        return reader.lines;
    }

    public int fault(int what) {
        switch (what) {
            case 0: return reader.fault;
            case 1: return reader.faultPlace;
            default: return NONE;
        }
    }

    public int look(int what) {
        switch (what) {
            case 0: return sayings.size();
            case 1: return law.thrown;
            case 2: return law.hold;
            case 3: return law.bend;
            case 4: return mowings.count;
            default: return lookAtKinds(what);
        }
    }

    private int lookAtKinds(int what) {
        if (what >= 10 && what < 10 + KINDS) {
            return law.weight[what - 10];
        }
        if (what >= 20 && what < 20 + KINDS) {
            return law.newerAlone[what - 20] ? 1 : 0;
        }
        return NONE;
    }

    public int said(int i, int what) {
        if (!below(i, sayings.size())) {
            return NONE;
        }
        Saying saying = sayings.get(i);
        switch (what) {
            case 0: return saying.kind;
            case 1: return saying.counted(saying.low, law);
            case 2: return saying.counted(saying.high, law);
            case 3: return saying.year;
            case 4: return stationsOf(saying);
            default: return NONE;
        }
    }

    private int stationsOf(Saying saying) {
        int set = 0;
        for (int s = saying.from; s <= saying.to; s++) {
            if (saying.countsAt(s, sayings, law)) {
                set |= 1 << s;
            }
        }
        return set;
    }

    public int paper(int s) {
        if (s != NONE && !below(s, STATIONS)) {
            return NONE - 1;
        }
        drawPaperLine();
        return s == NONE ? paperLine.cost : paperLine.feet[s];
    }

    // Most calls change neither a saying nor the law, so the line is drawn again only behind those that do.
    private void drawPaperLine() {
        if (!drawn) {
            paperLine.draw(sayings, law);
            drawn = true;
        }
    }

    public int straight(int foot) {
        if (!below(foot, FEET)) {
            return NONE;
        }
        int cost = 0;
        for (int i = 0; i < sayings.size(); i++) {
            Saying saying = sayings.get(i);
            int stations = Integer.bitCount(stationsOf(saying));
            int miss = missOf(foot, saying.counted(saying.low, law), saying.counted(saying.high, law));
            cost += stations * law.weight[saying.kind] * miss;
        }
        return cost;
    }

    public boolean mow(int n, int from, int to, int foot, int year) {
        boolean possible = below(n, NEIGHBOURS) && isStretch(from, to, STATIONS) && below(foot, FEET)
            && below(year, YEARS);
        return possible && mowings.tell(n, from, to, foot, year);
    }

    public boolean protest(int s, int year) {
        return below(s, STATIONS) && below(year, YEARS) && protests.tell(s, year);
    }

    public int mowed(int n, int s, int year) {
        boolean possible = below(n, NEIGHBOURS) && below(s, STATIONS) && below(year, YEARS);
        return possible ? mowings.reachOf(n, s, year) : NONE;
    }

    public int spells(int s, int what) {
        if (!below(s, STATIONS) || !below(what, NEIGHBOURS + 1)) {
            return NONE;
        }
        drawTrueLine(s);
        return what < NEIGHBOURS ? trueLine.won[what] : trueLine.movedIn;
    }

    public int line(int s) {
        if (!below(s, STATIONS)) {
            return NONE;
        }
        drawTrueLine(s);
        return trueLine.foot;
    }

    private void drawTrueLine(int s) {
        drawPaperLine();
        trueLine.draw(s, paperLine.feet[s], law.hold);
    }

    public boolean quarrel(int claim0, int claim1, int worth0, int worth1, int cost0, int cost1, int p, int q) {
        boolean possible = below(claim0, FEET) && below(claim1, FEET) && claim0 > claim1
            && Quarrel.isParty(worth0, cost0, p) && Quarrel.isParty(worth1, cost1, q);
        if (!possible) {
            return false;
        }
        latestQuarrel.open(claim0, claim1);
        latestQuarrel.setParty(0, worth0, cost0, p);
        latestQuarrel.setParty(1, worth1, cost1, q);
        latestQuarrel.judge();
        return true;
    }

    public int split(int what) {
        if (!latestQuarrel.opened) {
            return NONE;
        }
        switch (what) {
            case 0: return latestQuarrel.fair;
            case 1: return latestQuarrel.leastFair;
            case 2: return latestQuarrel.greatestFair;
            case 3: return latestQuarrel.fairest;
            default: return NONE;
        }
    }

    private static boolean below(int number, int bound) {
        return number >= 0 && number < bound;
    }

    private static boolean isStretch(int first, int last, int bound) {
        return first >= 0 && first <= last && last < bound;
    }

    private static int missOf(int foot, int low, int high) {
        return Math.max(0, Math.max(low - foot, foot - high));
    }

    private static final class Law {
        final int[] weight = new int[KINDS];
        final boolean[] newerAlone = new boolean[KINDS];
        int thrown;
        int hold;
        int bend;

        Law() {
            reset();
        }

        void reset() {
            Arrays.fill(weight, 1);
            for (int k = 0; k < KINDS; k++) {
                newerAlone[k] = false;
            }
            thrown = 0;
            hold = 12;
            bend = 1;
        }
    }

    private static final class Saying {
        final int kind;
        final int from;
        final int to;
        final int low;
        final int high;
        final int year;
        private final int side;

        Saying(int kind, int from, int to, int low, int high, int year, int side) {
            this.kind = kind;
            this.from = from;
            this.to = to;
            this.low = low;
            this.high = high;
            this.year = year;
            this.side = side;
        }

        // One of this saying's feet, as it counts by the law.
        int counted(int foot, Law law) {
            if (kind != DITCH) {
                return foot;
            }
            int moved = side == 0 ? foot + law.thrown : foot - law.thrown;
            return Math.max(0, Math.min(FEET - 1, moved));
        }

        private boolean has(int s) {
            return s >= from && s <= to;
        }

        boolean countsAt(int s, ArrayList<Saying> all, Law law) {
            if (!has(s)) {
                return false;
            }
            if (!law.newerAlone[kind]) {
                return true;
            }
            for (int i = 0; i < all.size(); i++) {
                Saying other = all.get(i);
                if (other.kind == kind && other.has(s) && other.year > year) {
                    return false;
                }
            }
            return true;
        }
    }

    private static final class Tape {
        final byte[] bytes = new byte[MOST_BYTES];
        int length = 0;

        void append(int number) {
            for (int shift = 24; shift >= 0 && length < MOST_BYTES; shift -= 8) {
                bytes[length] = (byte) (number >> shift);
                length++;
            }
        }

        boolean cut(int n) {
            if (n < 0 || n > length) {
                return false;
            }
            length = n;
            return true;
        }
    }

    /** Reads the tape from its first byte on, so that the first fault met is the first by its place. */
    private static final class LawReader {
        private static final int CANT_STAND = 1;
        private static final int OUT_OF_RANGE = 2;
        private static final int TOO_MANY = 3;

        // The kinds' keywords come first, so that a kind's keyword is its number.
        private static final int WEIGH = 6;
        private static final int THROW = 7;
        private static final int HOLD = 8;
        private static final int BEND = 9;
        private static final int NEWER = 10;
        private static final int KEYWORDS = 11;

        private static final int AT_END = 0;
        private static final int KEYWORD = 1;
        private static final int NUMBER = 2;
        private static final int SEMICOLON = 3;
        private static final int NO_TOKEN = 4;

        int fault = 0;
        int faultPlace = NONE;
        int lines = 0;
        private final Tape tape;
        private int next = 0;
        private int token = AT_END;
        private int tokenPlace = 0;
        private int tokenValue = NONE;

        LawReader(Tape tape) {
            this.tape = tape;
        }

        void read(Law draft) {
            fault = 0;
            faultPlace = NONE;
            lines = 0;
            next = 0;
            draft.reset();
            advance();
            for (int i = 0; i <= MOST_LINES && fault == 0 && token != AT_END; i++) {
                readLine(draft);
            }
        }

        private void readLine(Law draft) {
            int verb = token == KEYWORD ? tokenValue : NONE;
            demand(verb >= WEIGH, CANT_STAND);
            demand(lines < MOST_LINES, TOO_MANY);
            advance();
            int kind = NONE;
            int number = NONE;
            if (verb == WEIGH || verb == NEWER) {
                kind = kindHere();
                advance();
            }
            if (verb != NEWER) {
                number = numberHere(verb);
                advance();
            }
            demand(token == SEMICOLON, CANT_STAND);
            advance();
            if (fault == 0) {
                lines++;
                enact(draft, verb, kind, number);
            }
        }

        private int kindHere() {
            demand(token == KEYWORD && tokenValue < KINDS, CANT_STAND);
            return tokenValue;
        }

        private int numberHere(int verb) {
            demand(token == NUMBER, CANT_STAND);
            demand(fits(verb, tokenValue), OUT_OF_RANGE);
            return tokenValue;
        }

        // Tokens come by their places, so what was found before stays the fault.
        private void demand(boolean holds, int otherwise) {
            if (!holds && fault == 0) {
                fault = otherwise;
                faultPlace = tokenPlace;
            }
        }

        private static boolean fits(int verb, int number) {
            switch (verb) {
                case WEIGH: return number <= 20;
                case HOLD: return number > 0;
                default: return number <= 9;
            }
        }

        private static void enact(Law draft, int verb, int kind, int number) {
            boolean ofKind = kind >= 0 && kind < KINDS;
            if (verb == WEIGH && ofKind) {
                draft.weight[kind] = number;
            } else if (verb == NEWER && ofKind) {
                draft.newerAlone[kind] = true;
            } else if (verb == THROW) {
                draft.thrown = number;
            } else if (verb == HOLD) {
                draft.hold = number;
            } else if (verb == BEND) {
                draft.bend = number;
            }
        }

        private void advance() {
            while (next < tape.length && isBlank(tape.bytes[next])) {
                next++;
            }
            tokenPlace = next;
            tokenValue = NONE;
            if (next >= tape.length) {
                token = AT_END;
            } else if (isLetter(tape.bytes[next])) {
                scanWord();
            } else if (isDigit(tape.bytes[next])) {
                scanNumber();
            } else {
                token = tape.bytes[next] == ';' ? SEMICOLON : NO_TOKEN;
                next++;
            }
        }

        private void scanWord() {
            while (next < tape.length && isLetter(tape.bytes[next])) {
                next++;
            }
            token = NO_TOKEN;
            for (int k = 0; k < KEYWORDS; k++) {
                if (isSpelled(keyword(k))) {
                    token = KEYWORD;
                    tokenValue = k;
                }
            }
        }

        private boolean isSpelled(String word) {
            if (word.length() != next - tokenPlace) {
                return false;
            }
            for (int i = 0; i < word.length(); i++) {
                if (tape.bytes[tokenPlace + i] != word.charAt(i)) {
                    return false;
                }
            }
            return true;
        }

        private void scanNumber() {
            int value = 0;
            while (next < tape.length && isDigit(tape.bytes[next])) {
                value = 10 * value + tape.bytes[next] - '0';
                next++;
            }
            token = NO_TOKEN;
            // By digits and not by value: 007 is no number.
            if (next - tokenPlace <= 2) {
                token = NUMBER;
                tokenValue = value;
            }
        }

        private static String keyword(int k) {
            switch (k) {
                case 0: return "deed";
                case 1: return "map";
                case 2: return "ditch";
                case 3: return "post";
                case 4: return "word";
                case 5: return "survey";
                case WEIGH: return "weigh";
                case THROW: return "throw";
                case HOLD: return "hold";
                case BEND: return "bend";
                case NEWER: return "newer";
                default: return "";
            }
        }

        private static boolean isBlank(byte sign) {
            return sign == ' ' || sign == '\n';
        }

        private static boolean isLetter(byte sign) {
            return sign >= 'a' && sign <= 'z' || sign >= 'A' && sign <= 'Z';
        }

        private static boolean isDigit(byte sign) {
            return sign >= '0' && sign <= '9';
        }
    }

    private static final class PaperLine {
        final int[] feet = new int[STATIONS];
        int cost = 0;
        // By station and foot: the least cost from there on to the last station.
        private final int[][] onward = new int[STATIONS][FEET];

        // From the last station back, so that choosing feet from the first on
        // can take the least foot that still leads to the least cost.
        void draw(ArrayList<Saying> sayings, Law law) {
            for (int s = STATIONS - 1; s >= 0; s--) {
                int[] row = onward[s];
                if (s == STATIONS - 1) {
                    Arrays.fill(row, 0);
                } else {
                    bendTowards(onward[s + 1], row, law.bend);
                }
                addMisses(row, s, sayings, law);
            }
            chooseFeet(law.bend);
        }

        // A bend's cost grows evenly with the feet, so one sweep each way
        // finds the cheapest foot to go on to.
        private static void bendTowards(int[] following, int[] row, int bend) {
            System.arraycopy(following, 0, row, 0, FEET);
            for (int f = 1; f < FEET; f++) {
                row[f] = Math.min(row[f], row[f - 1] + bend);
            }
            for (int f = FEET - 2; f >= 0; f--) {
                row[f] = Math.min(row[f], row[f + 1] + bend);
            }
        }

        private static void addMisses(int[] row, int s, ArrayList<Saying> sayings, Law law) {
            for (int i = 0; i < sayings.size(); i++) {
                Saying saying = sayings.get(i);
                if (saying.countsAt(s, sayings, law)) {
                    int weight = law.weight[saying.kind];
                    int low = saying.counted(saying.low, law);
                    int high = saying.counted(saying.high, law);
                    for (int f = 0; f < FEET; f++) {
                        row[f] += weight * missOf(f, low, high);
                    }
                }
            }
        }

        private void chooseFeet(int bend) {
            feet[0] = cheapest(onward[0], 0, 0);
            cost = onward[0][feet[0]];
            for (int s = 1; s < STATIONS; s++) {
                feet[s] = cheapest(onward[s], feet[s - 1], bend);
            }
        }

        private static int cheapest(int[] row, int former, int bend) {
            int best = 0;
            for (int f = 1; f < FEET; f++) {
                if (priceOf(row, f, former, bend) < priceOf(row, best, former, bend)) {
                    best = f;
                }
            }
            return best;
        }

        private static int priceOf(int[] row, int f, int former, int bend) {
            return row[f] + bend * Math.abs(f - former);
        }
    }

    private static final class Mowings {
        int count = 0;
        // The years told of, the earlier first and each once.
        final int[] years = new int[MOST_MOWINGS];
        int yearCount = 0;
        private final int[] who = new int[MOST_MOWINGS];
        private final int[] from = new int[MOST_MOWINGS];
        private final int[] to = new int[MOST_MOWINGS];
        private final int[] reach = new int[MOST_MOWINGS];
        private final int[] when = new int[MOST_MOWINGS];

        boolean tell(int n, int first, int last, int foot, int year) {
            if (count >= MOST_MOWINGS) {
                return false;
            }
            who[count] = n;
            from[count] = first;
            to[count] = last;
            reach[count] = foot;
            when[count] = year;
            count++;
            noteYear(year);
            return true;
        }

        private void noteYear(int year) {
            int place = 0;
            while (place < yearCount && years[place] < year) {
                place++;
            }
            boolean known = place < yearCount && years[place] == year;
            if (known || yearCount >= MOST_MOWINGS) {
                return;
            }
            for (int i = yearCount; i > place; i--) {
                years[i] = years[i - 1];
            }
            years[place] = year;
            yearCount++;
        }

        int reachOf(int n, int s, int year) {
            for (int i = count - 1; i >= 0; i--) {
                if (who[i] == n && when[i] == year && from[i] <= s && s <= to[i]) {
                    return reach[i];
                }
            }
            return NONE;
        }
    }

    private static final class Protests {
        private final int[] station = new int[MOST_PROTESTS];
        private final int[] when = new int[MOST_PROTESTS];
        private int count = 0;

        boolean tell(int s, int year) {
            if (count >= MOST_PROTESTS || isTold(s, year)) {
                return false;
            }
            station[count] = s;
            when[count] = year;
            count++;
            return true;
        }

        boolean isTold(int s, int year) {
            for (int i = 0; i < count; i++) {
                if (station[i] == s && when[i] == year) {
                    return true;
                }
            }
            return false;
        }
    }

    /** One station's spells, met in the order in which they move the line. */
    private static final class TrueLine {
        int foot = 0;
        int movedIn = NONE;
        final int[] won = new int[NEIGHBOURS];
        private final Mowings mowings;
        private final Protests protests;
        // Of each neighbour: the years on end, up to now, that count for a spell.
        private final int[] run = new int[NEIGHBOURS];
        private final int[][] reach = new int[NEIGHBOURS][MOST_MOWINGS];

        TrueLine(Mowings mowings, Protests protests) {
            this.mowings = mowings;
            this.protests = protests;
        }

        void draw(int s, int paperFoot, int hold) {
            foot = paperFoot;
            movedIn = NONE;
            Arrays.fill(won, 0);
            Arrays.fill(run, 0);
            // A year that nobody told of ends every run, so the told ones are all to look at.
            for (int i = 0; i < mowings.yearCount; i++) {
                for (int n = 0; n < NEIGHBOURS; n++) {
                    extendRun(n, s, i, paperFoot);
                    if (run[n] >= hold) {
                        won[n]++;
                        moveLine(n, nearest(n, i, hold), mowings.years[i]);
                    }
                }
            }
        }

        private void extendRun(int n, int s, int i, int paperFoot) {
            int year = mowings.years[i];
            int mowedTo = mowings.reachOf(n, s, year);
            reach[n][i] = mowedTo;
            boolean counts = mowedTo != NONE && isBeyond(n, mowedTo, paperFoot) && !protests.isTold(s, year);
            boolean follows = i > 0 && mowings.years[i - 1] == year - 1;
            if (!counts) {
                run[n] = 0;
            } else {
                run[n] = follows ? run[n] + 1 : 1;
            }
        }

        private int nearest(int n, int last, int hold) {
            int best = reach[n][last];
            for (int i = last; i >= 0 && i > last - hold; i--) {
                if (isBeyond(n, best, reach[n][i])) {
                    best = reach[n][i];
                }
            }
            return best;
        }

        private void moveLine(int n, int mowedTo, int year) {
            if (isBeyond(n, mowedTo, foot)) {
                foot = mowedTo;
                movedIn = year;
            }
        }

        private static boolean isBeyond(int n, int mowedTo, int mark) {
            return n == 0 ? mowedTo > mark : mowedTo < mark;
        }
    }

    private static final class Quarrel {
        boolean opened = false;
        int fair = 0;
        int leastFair = NONE;
        int greatestFair = NONE;
        int fairest = NONE;
        private int greater = 0;
        private int lesser = 0;
        private final int[] worth = new int[NEIGHBOURS];
        private final int[] cost = new int[NEIGHBOURS];
        private final int[] chance = new int[NEIGHBOURS];

        static boolean isParty(int worth, int cost, int chance) {
            return below(worth, 100) && below(cost, 1000) && chance >= 1 && chance <= 99;
        }

        void open(int claim0, int claim1) {
            opened = true;
            greater = claim0;
            lesser = claim1;
        }

        void setParty(int n, int worthOfFoot, int costOfCourt, int chanceToWin) {
            worth[n] = worthOfFoot;
            cost[n] = costOfCourt;
            chance[n] = chanceToWin;
        }

        void judge() {
            fair = 0;
            leastFair = NONE;
            greatestFair = NONE;
            fairest = NONE;
            int bestGain = 0;
            for (int foot = lesser; foot <= greater; foot++) {
                int gain = Math.min(gainOf(0, foot - lesser), gainOf(1, greater - foot));
                if (gain >= 0) {
                    fair++;
                    leastFair = leastFair == NONE ? foot : leastFair;
                    greatestFair = foot;
                    if (fairest == NONE || gain > bestGain) {
                        bestGain = gain;
                        fairest = foot;
                    }
                }
            }
        }

        // Times p + q, so that shares stay whole and exact.
        private int gainOf(int n, int ground) {
            int all = chance[0] + chance[1];
            return worth[n] * ground * all - worth[n] * (greater - lesser) * chance[n] + cost[n] * all;
        }
    }
}
