/** The law as it is seen from the old tree; the document's promises, one method each. */
public final class LawFromTheTree {

    private static final int CELLS = 16;
    private static final int BRANCHES = 10;
    private static final int KINDS = 6;
    private static final int MOST_THINGS = 7;
    private static final int MOST_DIGIT = 9;
    private static final int MOST_EYES = 16;
    private static final int LAST_HOUR = 999;
    private static final int MOST_HOURS = 60;
    private static final int MOST_HOURS_WEIGHED = 30;
    private static final int MOST_HOURS_OF_MIST = 7;
    private static final int LEAST_ODDS = 2;
    private static final int MOST_ODDS = 20;
    private static final int CELLS_LOST_TO_MIST = 3;
    private static final int MOST_LETTERS = 96;
    private static final int MOST_LETTER = 255;
    private static final int MOST_NUMBERS = 16;
    private static final int MOST_NUMBER = 99;
    private static final int MOST_TERMS = 20;
    private static final int RANK_ABOVE_ALL = 10;
    private static final int WITHOUT_SIGN = 0x7fffffff;

    private static final int TREE = 0;
    private static final int SMOKE = 1;
    private static final int HORSE = 2;
    private static final int COW = 3;
    private static final int BIRD = 4;
    private static final int WASHING = 5;
    private static final String KIND_LETTERS = "tshcbw";

    private static final int NOTHING = 0;
    private static final int GUILTY = 1;
    private static final int FREE = 2;

    private static final int NONE = -9;
    private static final int NOWHERE = -1;

    private static final int NOBODY = -1;
    private static final int OTHER = -2;
    private static final int STATE = -3;
    private static final int BELOW = -4;
    private static final int ROOM = -6;
    private static final int REFUSAL_NUMBERS = 6;
    private static final int COUNT_OF_REFUSALS = 10;
    private static final long REFUSED_LONG = 4000000000000000000L;

    private static final int NO_LAND = -1000;
    private static final int WRONG_LAND = -2000;

    private final Land now;
    private final Land mind;
    private final Land kept;
    private final Letters letters;
    private final Lot lot;
    private final int[] numbers;
    private final int[] refusals;
    private final int[] sights;
    private final long[] odds;
    private final int[][] gains;
    private int numbersTold;
    private boolean hasImage;

    // All rows are made here and used again, since nothing that a run makes is given back.
    public LawFromTheTree() {
        now = new Land();
        mind = new Land();
        kept = new Land();
        letters = new Letters();
        lot = new Lot();
        numbers = new int[MOST_NUMBERS];
        refusals = new int[REFUSAL_NUMBERS + 1];
        sights = new int[BRANCHES];
        odds = new long[MOST_HOURS_OF_MIST + 1];
        gains = new int[2][2];
    }

    public int letter(int c) {
        if (c < 0) {
            return refuse(BELOW);
        }
        if (c > MOST_LETTER || letters.isFull()) {
            return refuse(ROOM);
        }
        return letters.add(c);
    }

    public int land() {
        // Told to a land in mind first, so that a fault leaves the land as it was.
        Land told = inMind();
        int misfit = letters.firstMisfit();
        int wrong = misfit == NOWHERE ? letters.firstWrongFor(told) : NOWHERE;
        int statements = letters.statements();
        letters.forget();
        if (misfit != NOWHERE) {
            return NO_LAND - misfit;
        }
        if (wrong != NOWHERE) {
            return WRONG_LAND - wrong;
        }
        now.copyFrom(told);
        return statements;
    }

    public int thing(int thing, int what) {
        if (!now.hasThing(thing)) {
            return refuse(NOBODY);
        }
        switch (what) {
            case 0:
                return now.kinds[thing];
            case 1:
                return now.figures[thing];
            case 2:
                return now.places[thing];
            case 3:
                return now.isHidden(thing) ? 1 : 0;
            case 4:
                return now.topOf(thing);
            case 5:
                return now.stepsOf(thing, now.hour + 1);
            default:
                return refuse(OTHER);
        }
    }

    public int height(int cell) {
        if (!isCell(cell)) {
            return refuse(NOBODY);
        }
        return now.heights[cell];
    }

    public int code(int kind, int what) {
        if (!isKind(kind) || !isEither(what)) {
            return refuse(OTHER);
        }
        return what == 0 ? now.verdicts[kind] : now.ranks[kind];
    }

    public int heaps(int cell, int v) {
        if (!isCell(cell)) {
            return refuse(NOBODY);
        }
        if (!isWithin(v, 0, MOST_DIGIT)) {
            return refuse(v < 0 ? BELOW : ROOM);
        }
        int was = now.heights[cell];
        now.setHeight(cell, v);
        return was;
    }

    public int drives(int thing, int cell) {
        if (!now.hasThing(thing) || !isCell(cell)) {
            return refuse(NOBODY);
        }
        int was = now.places[thing];
        now.places[thing] = cell;
        return was;
    }

    public int hides(int thing) {
        if (!now.hasThing(thing)) {
            return refuse(NOBODY);
        }
        now.turnHidden(thing);
        return now.isHidden(thing) ? 1 : 0;
    }

    public int decrees(int kind, int verdict, int rank) {
        if (!isKind(kind) || !isVerdict(verdict)) {
            return refuse(OTHER);
        }
        if (!isWithin(rank, 0, MOST_DIGIT)) {
            return refuse(rank < 0 ? BELOW : ROOM);
        }
        int was = 10 * now.verdicts[kind] + now.ranks[kind];
        now.decree(kind, verdict, rank);
        return was;
    }

    public int eyes(int v) {
        if (!isWithin(v, 0, MOST_EYES)) {
            return refuse(v < 0 ? BELOW : ROOM);
        }
        int was = now.eyes;
        now.eyes = v;
        return was;
    }

    public int turn(int thing, int kind, int figure) {
        if (!now.hasThing(thing)) {
            return refuse(NOBODY);
        }
        if (!isKind(kind)) {
            return refuse(OTHER);
        }
        if (!isWithin(figure, 0, MOST_DIGIT)) {
            return refuse(figure < 0 ? BELOW : ROOM);
        }
        int was = 10 * now.kinds[thing] + now.figures[thing];
        now.kinds[thing] = kind;
        now.figures[thing] = figure;
        return was;
    }

    public int hours(int n) {
        if (!isWithin(n, 1, Math.min(MOST_HOURS, LAST_HOUR - now.hour))) {
            return refuse(n < 1 ? BELOW : ROOM);
        }
        now.passHours(n);
        return now.hour;
    }

    public int seen(int branch, int what) {
        if (!isBranch(branch)) {
            return refuse(NOBODY);
        }
        switch (what) {
            case 0:
                return now.sightFrom(branch);
            case 1:
                return now.verdictFrom(branch);
            case 2:
                return now.deciderIn(now.sightFrom(branch));
            case 3:
                return now.farthestIn(now.sightFrom(branch));
            case 4:
                return now.blindFrom(branch);
            default:
                return refuse(OTHER);
        }
    }

    public int thingThen(int thing, int n) {
        if (!now.hasThing(thing)) {
            return refuse(NOBODY);
        }
        if (!isWithin(n, 0, MOST_HOURS)) {
            return refuse(n < 0 ? BELOW : ROOM);
        }
        return inMindBehind(n).places[thing];
    }

    public int seenThen(int branch, int n, int what) {
        if (!isBranch(branch)) {
            return refuse(NOBODY);
        }
        if (!isWithin(n, 0, MOST_HOURS)) {
            return refuse(n < 0 ? BELOW : ROOM);
        }
        if (!isEither(what)) {
            return refuse(OTHER);
        }
        Land then = inMindBehind(n);
        return what == 0 ? then.sightFrom(branch) : then.verdictFrom(branch);
    }

    public int falls(int branch, int verdict) {
        if (!isBranch(branch)) {
            return refuse(NOBODY);
        }
        if (!isVerdict(verdict)) {
            return refuse(OTHER);
        }
        Land then = inMind();
        for (int n = 0; n <= MOST_HOURS; n++) {
            if (then.verdictFrom(branch) == verdict) {
                return n;
            }
            then.passHours(1);
        }
        return NONE;
    }

    public int sight(int branch, int thing, int what) {
        if (!isBranch(branch) || !now.hasThing(thing)) {
            return refuse(NOBODY);
        }
        if (!isEither(what)) {
            return refuse(OTHER);
        }
        int first = NONE;
        int many = 0;
        Land then = inMind();
        for (int n = 0; n <= MOST_HOURS; n++) {
            if (then.isSeen(thing, branch)) {
                first = many == 0 ? n : first;
                many++;
            }
            then.passHours(1);
        }
        return what == 0 ? first : many;
    }

    public int agree() {
        Land then = inMind();
        for (int n = 0; n <= MOST_HOURS; n++) {
            if (then.differsAbove(0) == NONE) {
                return n;
            }
            then.passHours(1);
        }
        return NONE;
    }

    public int appeal(int branch) {
        if (!isBranch(branch)) {
            return refuse(NOBODY);
        }
        return now.differsAbove(branch);
    }

    public int branches(int verdict) {
        if (!isVerdict(verdict)) {
            return refuse(OTHER);
        }
        return now.branchesWith(verdict);
    }

    public int best(int verdict, int n, int what) {
        if (!isVerdict(verdict) || !isEither(what)) {
            return refuse(OTHER);
        }
        if (!isWithin(n, 0, MOST_HOURS_WEIGHED)) {
            return refuse(n < 0 ? BELOW : ROOM);
        }
        int best = 0;
        int most = -1;
        for (int branch = 0; branch < BRANCHES; branch++) {
            int many = hoursWith(verdict, branch, n);
            if (many > most) {
                most = many;
                best = branch;
            }
        }
        return what == 0 ? best : most;
    }

    public int drive(int thing, int verdict) {
        if (!now.hasThing(thing)) {
            return refuse(NOBODY);
        }
        if (!isVerdict(verdict)) {
            return refuse(OTHER);
        }
        int best = NONE;
        int most = Integer.bitCount(now.branchesWith(verdict));
        Land driven = inMind();
        for (int cell = 0; cell < CELLS; cell++) {
            driven.places[thing] = cell;
            int many = Integer.bitCount(driven.branchesWith(verdict));
            if (many > most) {
                most = many;
                best = cell;
            }
        }
        return best;
    }

    public int hill(int branch, int what) {
        if (!isBranch(branch)) {
            return refuse(NOBODY);
        }
        if (!isEither(what)) {
            return refuse(OTHER);
        }
        return what == 0 ? cellToLevel(branch) : cellToScreen(branch);
    }

    public int hide(int verdict) {
        if (!isVerdict(verdict)) {
            return refuse(OTHER);
        }
        // No thing stands before another, so what else is seen doesn't hang on who is hidden.
        for (int branch = 0; branch < BRANCHES; branch++) {
            sights[branch] = now.sightFrom(branch);
        }
        int fewest = NONE;
        for (int more = 0; more < 1 << now.things; more++) {
            boolean fewer = fewest == NONE || Integer.bitCount(more) < Integer.bitCount(fewest);
            if (fewer && isEverywhereWithout(more, verdict)) {
                fewest = more;
            }
        }
        return fewest;
    }

    public int eyesBest(int branch, int verdict, int what) {
        if (!isBranch(branch)) {
            return refuse(NOBODY);
        }
        if (!isVerdict(verdict) || !isEither(what)) {
            return refuse(OTHER);
        }
        int least = NONE;
        int most = NONE;
        Land looked = inMind();
        for (int eyes = 0; eyes <= MOST_EYES; eyes++) {
            looked.eyes = eyes;
            if (looked.verdictFrom(branch) == verdict) {
                least = least == NONE ? eyes : least;
                most = eyes;
            }
        }
        return what == 0 ? least : most;
    }

    public int ranked(int verdict, int what) {
        if (!isVerdict(verdict) || !isEither(what)) {
            return refuse(OTHER);
        }
        int best = 0;
        int most = -1;
        for (int kind = 0; kind < KINDS; kind++) {
            Land decreed = inMind();
            decreed.ranks[kind] = RANK_ABOVE_ALL;
            int many = Integer.bitCount(decreed.branchesWith(verdict));
            if (many > most) {
                most = many;
                best = kind;
            }
        }
        return what == 0 ? best : most;
    }

    public int window(int what) {
        switch (what) {
            case 0:
            case 1:
                return longestRun(what == 1);
            case 2:
                return now.highest();
            case 3:
                return now.twosInOneCell();
            case 4:
                return now.lost();
            default:
                return refuse(OTHER);
        }
    }

    public int two(int a, int b, int n) {
        if (!now.hasThing(a) || !now.hasThing(b) || a == b) {
            return refuse(NOBODY);
        }
        if (!isWithin(n, 0, MOST_HOURS_WEIGHED)) {
            return refuse(n < 0 ? BELOW : ROOM);
        }
        for (int first = 0; first <= 1; first++) {
            for (int second = 0; second <= 1; second++) {
                gains[first][second] = gainBehind(n, a, first, b, second);
            }
        }
        return firstPairAtRest();
    }

    public long mist(int branch, int n, int t, int verdict, int part) {
        if (!isBranch(branch)) {
            return refuseLong(NOBODY);
        }
        if (n < 0 || t < LEAST_ODDS) {
            return refuseLong(BELOW);
        }
        if (n > MOST_HOURS_OF_MIST || t > MOST_ODDS) {
            return refuseLong(ROOM);
        }
        if (!isVerdict(verdict) || !isEither(part)) {
            return refuseLong(OTHER);
        }
        long ways = weighMists(n, t);
        long fitting = 0;
        Land then = inMindBehind(n);
        for (int mists = 0; mists <= n; mists++) {
            then.eyes = Math.max(0, now.eyes - CELLS_LOST_TO_MIST * mists);
            if (then.verdictFrom(branch) == verdict) {
                fitting += odds[mists];
            }
        }
        return partOf(fitting, ways, part);
    }

    public long mean(int part) {
        if (!isEither(part)) {
            return refuseLong(OTHER);
        }
        return partOf(sumOf(now.heights), CELLS, part);
    }

    public int whereWas(int thing, int branch, int what) {
        if (!now.hasThing(thing) || !isBranch(branch)) {
            return refuse(NOBODY);
        }
        if (!isEither(what)) {
            return refuse(OTHER);
        }
        int possible = 0;
        int candidates = what == 0 ? CELLS : KINDS;
        for (int candidate = 0; candidate < candidates; candidate++) {
            Land then = inMind();
            if (what == 0) {
                then.places[thing] = candidate;
            } else {
                then.kinds[thing] = candidate;
            }
            if (goesByRow(then, branch)) {
                possible |= 1 << candidate;
            }
        }
        return possible;
    }

    public int row(int v) {
        if (v < 0) {
            return refuse(BELOW);
        }
        if (v > MOST_NUMBER || numbersTold >= MOST_NUMBERS) {
            return refuse(ROOM);
        }
        numbers[numbersTold] = v;
        numbersTold++;
        return numbersTold;
    }

    public int judge() {
        int answer = firstHeightNotSo();
        numbersTold = 0;
        return answer;
    }

    public int clear() {
        int had = numbersTold;
        numbersTold = 0;
        return had;
    }

    public int lots(int n, int z, int what) {
        if (!isWithin(n, 1, MOST_TERMS)) {
            return refuse(n < 1 ? BELOW : ROOM);
        }
        if (!isEither(what)) {
            return refuse(OTHER);
        }
        int guilty = 0;
        int seenTogether = 0;
        lot.seed = z;
        Land term = inMind();
        for (int i = 0; i < n; i++) {
            // Each term casts every thing anew, so the land of the term before needs no undoing.
            for (int thing = 0; thing < term.things; thing++) {
                term.places[thing] = lot.draw(CELLS);
            }
            int sight = term.sightFrom(lot.draw(BRANCHES));
            guilty += term.verdictIn(sight) == GUILTY ? 1 : 0;
            seenTogether += Integer.bitCount(sight);
        }
        return what == 0 ? guilty : seenTogether;
    }

    public int image() {
        kept.copyFrom(now);
        hasImage = true;
        return now.hour;
    }

    public int on() {
        if (!hasImage) {
            return refuse(STATE);
        }
        now.copyFrom(kept);
        return now.hour;
    }

    public int count(int what) {
        switch (what) {
            case 0:
                return now.things;
            case 1:
                return now.hour;
            case 2:
                return now.eyes;
            case 3:
                return now.hidden;
            case 4:
                return sumOf(now.heights);
            case 5:
                return sumOf(now.ranks);
            case 6:
                return numbersTold;
            case 7:
                return letters.told;
            default:
                return refusalsOf(what);
        }
    }

    private int refuse(int number) {
        refusals[-number]++;
        return number;
    }

    private long refuseLong(int number) {
        return REFUSED_LONG - refuse(number);
    }

    private int refusalsOf(int what) {
        boolean isTold = isWithin(what, COUNT_OF_REFUSALS + 1, COUNT_OF_REFUSALS + REFUSAL_NUMBERS);
        return isTold ? refusals[what - COUNT_OF_REFUSALS] : NONE;
    }

    private Land inMind() {
        mind.copyFrom(now);
        return mind;
    }

    private Land inMindBehind(int hours) {
        Land then = inMind();
        then.passHours(hours);
        return then;
    }

    private int hoursWith(int verdict, int branch, int last) {
        int many = 0;
        Land then = inMind();
        for (int n = 0; n <= last; n++) {
            many += then.verdictFrom(branch) == verdict ? 1 : 0;
            then.passHours(1);
        }
        return many;
    }

    private int cellToLevel(int branch) {
        int best = NONE;
        int most = Integer.bitCount(now.sightFrom(branch));
        for (int cell = 0; cell < CELLS; cell++) {
            int many = manySeenWith(cell, 0, branch);
            if (many > most) {
                most = many;
                best = cell;
            }
        }
        return best;
    }

    private int cellToScreen(int branch) {
        int best = NONE;
        int fewest = Integer.bitCount(now.sightFrom(branch));
        for (int cell = 0; cell < CELLS; cell++) {
            int many = manySeenWith(cell, MOST_DIGIT, branch);
            if (many < fewest) {
                fewest = many;
                best = cell;
            }
        }
        return best;
    }

    private int manySeenWith(int cell, int height, int branch) {
        Land heaped = inMind();
        heaped.setHeight(cell, height);
        return Integer.bitCount(heaped.sightFrom(branch));
    }

    private boolean isEverywhereWithout(int more, int verdict) {
        for (int branch = 0; branch < BRANCHES; branch++) {
            if (now.verdictIn(sights[branch] & ~more) != verdict) {
                return false;
            }
        }
        return true;
    }

    private int longestRun(boolean wantsLowest) {
        int longest = 0;
        int lowest = 0;
        int run = 0;
        int last = NONE;
        for (int branch = 0; branch < BRANCHES; branch++) {
            int verdict = now.verdictFrom(branch);
            run = verdict == last ? run + 1 : 1;
            last = verdict;
            if (run > longest) {
                longest = run;
                lowest = branch - run + 1;
            }
        }
        return wantsLowest ? lowest : longest;
    }

    private int gainBehind(int n, int a, int stepsOfA, int b, int stepsOfB) {
        Land then = inMind();
        then.goOn(a, stepsOfA);
        then.goOn(b, stepsOfB);
        then.passHours(n);
        return Integer.bitCount(then.branchesWith(GUILTY)) - Integer.bitCount(then.branchesWith(FREE));
    }

    // What the first side gains the second loses, so one number of each pair serves both.
    private int firstPairAtRest() {
        for (int first = 0; first <= 1; first++) {
            for (int second = 0; second <= 1; second++) {
                int gain = gains[first][second];
                if (gain >= gains[1 - first][second] && gain <= gains[first][1 - second]) {
                    return 10 * first + second;
                }
            }
        }
        return NONE;
    }

    // odds[k] becomes how many of all ways have k mists, each mist 1 way and each clear hour t - 1.
    private long weighMists(int n, int t) {
        for (int mists = 0; mists <= MOST_HOURS_OF_MIST; mists++) {
            odds[mists] = mists == 0 ? 1 : 0;
        }
        long ways = 1;
        for (int i = 0; i < n; i++) {
            for (int mists = MOST_HOURS_OF_MIST; mists > 0; mists--) {
                odds[mists] = odds[mists] * (t - 1) + odds[mists - 1];
            }
            odds[0] *= t - 1;
            ways *= t;
        }
        return ways;
    }

    private boolean goesByRow(Land then, int branch) {
        for (int i = 0; i < numbersTold; i++) {
            if (then.verdictFrom(branch) != numbers[i]) {
                return false;
            }
            then.passHours(1);
        }
        return true;
    }

    private int firstHeightNotSo() {
        for (int i = 0; i < numbersTold; i++) {
            if (!isCell(i) || now.heights[i] != numbers[i]) {
                return i;
            }
        }
        return NONE;
    }

    private static boolean isWithin(int number, int least, int greatest) {
        return number >= least && number <= greatest;
    }

    private static boolean isCell(int cell) {
        return isWithin(cell, 0, CELLS - 1);
    }

    private static boolean isBranch(int branch) {
        return isWithin(branch, 0, BRANCHES - 1);
    }

    private static boolean isKind(int kind) {
        return isWithin(kind, 0, KINDS - 1);
    }

    private static boolean isVerdict(int verdict) {
        return isWithin(verdict, NOTHING, FREE);
    }

    private static boolean isEither(int what) {
        return isWithin(what, 0, 1);
    }

    private static int sumOf(int[] many) {
        int sum = 0;
        for (int one : many) {
            sum += one;
        }
        return sum;
    }

    private static long partOf(long above, long below, int part) {
        long common = commonDivisor(above, below);
        long told = part == 0 ? above : below;
        return common == 0 ? told : told / common;
    }

    // A hundred steps are more than any two longs need.
    private static long commonDivisor(long a, long b) {
        long greater = a;
        long lesser = b;
        for (int i = 0; i < 100 && lesser != 0; i++) {
            long rest = greater % lesser;
            greater = lesser;
            lesser = rest;
        }
        return greater;
    }

    /** All that an image keeps: cells, things, the code, the eyes and the hour. */
    private static final class Land {
        final int[] heights = new int[CELLS];
        // The greatest height ahead of each cell: it alone decides whether a cell stands in the way.
        final int[] ridges = new int[CELLS];
        final int[] kinds = new int[MOST_THINGS];
        final int[] figures = new int[MOST_THINGS];
        final int[] places = new int[MOST_THINGS];
        final int[] verdicts = new int[KINDS];
        final int[] ranks = new int[KINDS];
        int things;
        int hidden;
        int eyes = MOST_EYES;
        int hour;

        Land() {
            // Nothing is ahead of cell 0, so its ridge is below every branch.
            ridges[0] = -1;
        }

        void copyFrom(Land other) {
            System.arraycopy(other.heights, 0, heights, 0, CELLS);
            System.arraycopy(other.ridges, 0, ridges, 0, CELLS);
            System.arraycopy(other.kinds, 0, kinds, 0, MOST_THINGS);
            System.arraycopy(other.figures, 0, figures, 0, MOST_THINGS);
            System.arraycopy(other.places, 0, places, 0, MOST_THINGS);
            System.arraycopy(other.verdicts, 0, verdicts, 0, KINDS);
            System.arraycopy(other.ranks, 0, ranks, 0, KINDS);
            things = other.things;
            hidden = other.hidden;
            eyes = other.eyes;
            hour = other.hour;
        }

        boolean hasThing(int thing) {
            return isWithin(thing, 0, things - 1);
        }

        boolean isHidden(int thing) {
            return (hidden >> thing & 1) == 1;
        }

        void turnHidden(int thing) {
            hidden ^= 1 << thing;
        }

        void setHeight(int cell, int height) {
            heights[cell] = height;
            for (int behind = cell + 1; behind < CELLS; behind++) {
                ridges[behind] = Math.max(ridges[behind - 1], heights[behind - 1]);
            }
        }

        void addThing(int kind, int figure, int cell) {
            kinds[things] = kind;
            figures[things] = figure;
            places[things] = cell;
            things++;
        }

        void decree(int kind, int verdict, int rank) {
            verdicts[kind] = verdict;
            ranks[kind] = rank;
        }

        void passHours(int n) {
            for (int i = 0; i < n; i++) {
                hour++;
                for (int thing = 0; thing < things; thing++) {
                    goOn(thing, stepsOf(thing, hour));
                }
            }
        }

        void goOn(int thing, int steps) {
            places[thing] = (places[thing] + steps) % CELLS;
        }

        int stepsOf(int thing, int atHour) {
            switch (kinds[thing]) {
                case HORSE:
                    return 1;
                case COW:
                    return divides(figures[thing] + 2, atHour) ? 1 : 0;
                case BIRD:
                    return 2;
                default:
                    return 0;
            }
        }

        int riseOf(int thing) {
            switch (kinds[thing]) {
                case TREE:
                    return figures[thing];
                case SMOKE:
                    return figures[thing] + hour % 2;
                case HORSE:
                case COW:
                    return 1;
                case BIRD:
                    return 1 + 5;
                case WASHING:
                    return hour % 2 == 0 ? 2 : 0;
                default:
                    return 0;
            }
        }

        int topOf(int thing) {
            return heights[places[thing]] + riseOf(thing);
        }

        boolean isInSight(int cell, int top, int branch) {
            return cell + 1 <= eyes && top > 0 && ridges[cell] < Math.max(branch, top);
        }

        boolean isSeen(int thing, int branch) {
            return !isHidden(thing) && isInSight(places[thing], topOf(thing), branch);
        }

        int sightFrom(int branch) {
            int sight = 0;
            for (int thing = 0; thing < things; thing++) {
                if (isSeen(thing, branch)) {
                    sight |= 1 << thing;
                }
            }
            return sight;
        }

        int deciderIn(int sight) {
            int decider = NONE;
            int greatest = -1;
            for (int thing = 0; thing < things; thing++) {
                boolean counts = (sight >> thing & 1) == 1 && verdicts[kinds[thing]] != NOTHING;
                if (counts && ranks[kinds[thing]] > greatest) {
                    greatest = ranks[kinds[thing]];
                    decider = thing;
                }
            }
            return decider;
        }

        int verdictIn(int sight) {
            int decider = deciderIn(sight);
            return hasThing(decider) ? verdicts[kinds[decider]] : NOTHING;
        }

        int verdictFrom(int branch) {
            return verdictIn(sightFrom(branch));
        }

        int branchesWith(int verdict) {
            int with = 0;
            for (int branch = 0; branch < BRANCHES; branch++) {
                if (verdictIn(sightFrom(branch)) == verdict) {
                    with |= 1 << branch;
                }
            }
            return with;
        }

        int differsAbove(int branch) {
            int verdict = verdictFrom(branch);
            for (int above = branch + 1; above < BRANCHES; above++) {
                if (verdictFrom(above) != verdict) {
                    return above;
                }
            }
            return NONE;
        }

        int farthestIn(int sight) {
            int farthest = NONE;
            int cell = -1;
            for (int thing = 0; thing < things; thing++) {
                if ((sight >> thing & 1) == 1 && places[thing] > cell) {
                    cell = places[thing];
                    farthest = thing;
                }
            }
            return farthest;
        }

        int blindFrom(int branch) {
            int blind = 0;
            for (int cell = 0; cell < CELLS; cell++) {
                if (!isInSight(cell, heights[cell] + 1, branch)) {
                    blind |= 1 << cell;
                }
            }
            return blind;
        }

        int highest() {
            int highest = NONE;
            int top = -1;
            for (int thing = 0; thing < things; thing++) {
                if (topOf(thing) > top) {
                    top = topOf(thing);
                    highest = thing;
                }
            }
            return highest;
        }

        int twosInOneCell() {
            int twos = 0;
            for (int thing = 0; thing < things; thing++) {
                for (int other = thing + 1; other < things; other++) {
                    twos += places[thing] == places[other] ? 1 : 0;
                }
            }
            return twos;
        }

        int lost() {
            int found = 0;
            for (int branch = 0; branch < BRANCHES; branch++) {
                found |= sightFrom(branch);
            }
            return (1 << things) - 1 & ~found;
        }

        private static boolean divides(int divisor, int number) {
            return divisor != 0 && number % divisor == 0;
        }
    }

    /** The letters told so far, and the land that they tell. */
    private static final class Letters {
        private final int[] signs = new int[MOST_LETTERS];
        int told;

        boolean isFull() {
            return told >= MOST_LETTERS;
        }

        int add(int sign) {
            if (!isFull()) {
                signs[told] = sign;
                told++;
            }
            return told;
        }

        void forget() {
            told = 0;
        }

        int statements() {
            int many = 0;
            for (int place = 0; place < told; place++) {
                many += signs[place] == ';' ? 1 : 0;
            }
            return many;
        }

        int firstMisfit() {
            int start = 0;
            for (int place = 0; place < told; place++) {
                if (!fits(start, place)) {
                    return place;
                }
                if (signs[place] == ';') {
                    start = place + 1;
                }
            }
            return told == 0 || start < told ? told : NOWHERE;
        }

        int firstWrongFor(Land land) {
            for (int place = 0; place < told; place++) {
                boolean begins = place == 0 || signs[place - 1] == ';';
                if (begins && !tell(land, place)) {
                    return place;
                }
            }
            return NOWHERE;
        }

        private boolean fits(int start, int place) {
            String shape = shapeBehind(signs[start]);
            if (place == start) {
                return !shape.isEmpty();
            }
            int at = place - start - 1;
            if (at < 0 || at >= shape.length()) {
                return false;
            }
            int due = shape.charAt(at);
            switch (due) {
                case 'k':
                    return kindAt(place) != NOWHERE;
                case '0':
                    return isWithin(digitAt(place), 0, MOST_DIGIT);
                default:
                    return signs[place] == due;
            }
        }

        // k stands for a kind's letter, 0 for a digit.
        private static String shapeBehind(int sign) {
            switch (sign) {
                case 'c':
                case 'd':
                    return "000;";
                case 't':
                    return "k000;";
                case 'v':
                    return "k00;";
                case 'e':
                case 'h':
                    return "00;";
                case 'x':
                    return "0;";
                default:
                    return "";
            }
        }

        private boolean tell(Land land, int start) {
            switch (signs[start]) {
                case 'c':
                    return tellHeight(land, twoDigitsAt(start + 1), digitAt(start + 3));
                case 't':
                    return tellThing(land, kindAt(start + 1), digitAt(start + 2), twoDigitsAt(start + 3));
                case 'v':
                    return tellCode(land, kindAt(start + 1), digitAt(start + 2), digitAt(start + 3));
                case 'e':
                    return tellEyes(land, twoDigitsAt(start + 1));
                case 'x':
                    return tellHidden(land, digitAt(start + 1));
                case 'd':
                    return tellDriven(land, digitAt(start + 1), twoDigitsAt(start + 2));
                case 'h':
                    return tellHours(land, twoDigitsAt(start + 1));
                default:
                    return false;
            }
        }

        private static boolean tellHeight(Land land, int cell, int height) {
            boolean right = isCell(cell);
            if (right) {
                land.setHeight(cell, height);
            }
            return right;
        }

        private static boolean tellThing(Land land, int kind, int figure, int cell) {
            boolean right = land.things < MOST_THINGS && isKind(kind) && isCell(cell);
            if (right) {
                land.addThing(kind, figure, cell);
            }
            return right;
        }

        private static boolean tellCode(Land land, int kind, int verdict, int rank) {
            boolean right = isKind(kind) && isVerdict(verdict);
            if (right) {
                land.decree(kind, verdict, rank);
            }
            return right;
        }

        private static boolean tellEyes(Land land, int eyes) {
            boolean right = isWithin(eyes, 0, MOST_EYES);
            if (right) {
                land.eyes = eyes;
            }
            return right;
        }

        private static boolean tellHidden(Land land, int thing) {
            boolean right = land.hasThing(thing);
            if (right) {
                land.turnHidden(thing);
            }
            return right;
        }

        private static boolean tellDriven(Land land, int thing, int cell) {
            boolean right = land.hasThing(thing) && isCell(cell);
            if (right) {
                land.places[thing] = cell;
            }
            return right;
        }

        private static boolean tellHours(Land land, int n) {
            boolean right = isWithin(n, 1, Math.min(MOST_HOURS, LAST_HOUR - land.hour));
            if (right) {
                land.passHours(n);
            }
            return right;
        }

        private int kindAt(int place) {
            return place < told ? KIND_LETTERS.indexOf((char) signs[place]) : NOWHERE;
        }

        private int digitAt(int place) {
            return place < told ? signs[place] - '0' : 0;
        }

        private int twoDigitsAt(int place) {
            return 10 * digitAt(place) + digitAt(place + 1);
        }
    }

    /** Draws by a seed. */
    private static final class Lot {
        int seed;

        int draw(int below) {
            seed = seed * 1664525 + 1013904223;
            int cut = (seed & WITHOUT_SIGN) / 256;
            return below > 0 ? cut % below : 0;
        }
    }
}
