/** The edges of promises 30 to 36: mist, the mean, where a thing was, the row, what is judged, lots. */
public final class OddsEdgesTest {
    private static final Check CHECK = new Check("OddsEdgesTest");

    public static void main(String[] args) {
        mistByOdds();
        mist();
        meanOfHeights();
        mean();
        fractions();
        whereItWas();
        whereWas();
        rowOfNumbers();
        row();
        judged();
        judge();
        clear();
        lotsWithASeed();
        draws();
        lots();
        CHECK.end();
    }

    private static Refusals sample() {
        return new Refusals(CHECK, RefusalOrderTest::sample);
    }

    private static Refusals empty() {
        return new Refusals(CHECK, LawFromTheTree::new);
    }

    private static void fraction(LawFromTheTree law, int n, int t, int verdict, long above, long below) {
        String call = "mist(0, " + n + ", " + t + ", " + verdict + ", ";
        CHECK.due(call + "0)", law.mist(0, n, t, verdict, 0), above);
        CHECK.due(call + "1)", law.mist(0, n, t, verdict, 1), below);
    }

    private static void mistByOdds() {
        CHECK.sentence("MIST: in each of n HOURS (0 .. 7), by itself, with odds 1 in t (2 .. 20) EYES are 3 CELLS fewer "
            + "(0 at least) and stay so: how likely the VERDICT from a BRANCH is v behind these: a fraction.");
        LawFromTheTree last = Check.told("tt115;vt13;");
        // The last cell is seen with all eyes alone: no mist in any hour.
        fraction(last, 0, 2, 1, 1, 1);
        fraction(last, 0, 20, 0, 0, 1);
        fraction(last, 1, 2, 1, 1, 2);
        fraction(last, 1, 20, 1, 19, 20);
        fraction(last, 7, 2, 1, 1, 128);
        fraction(last, 7, 20, 1, 893871739L, 1280000000L);
        fraction(last, 7, 20, 0, 386128261L, 1280000000L);
        fraction(last, 7, 20, 2, 0, 1);
        // 3 cells fewer: 13 far is not too far for 13 eyes, 14 far is.
        last.drives(0, 12);
        fraction(last, 1, 2, 1, 1, 1);
        last.drives(0, 13);
        fraction(last, 1, 2, 1, 1, 2);
        // They stay so: behind 5 mists 1 cell is left, behind 6 none, and never fewer than none.
        last.drives(0, 0);
        fraction(last, 5, 2, 1, 1, 1);
        fraction(last, 6, 2, 1, 63, 64);
        // At most 5 mists of 7: 120 of 128.
        fraction(last, 7, 2, 1, 15, 16);
    }

    private static void mist() {
        CHECK.sentence("`long mist(int branch, int n, int t, int verdict, int part)`: MIST, part 0 above, 1 below the line. "
            + "Refused as told: -1; -4 (n; t below 2); -6 (7; 20); -2 (VERDICT; part).");
        fraction(new LawFromTheTree(), 7, 20, 0, 1, 1);
        fraction(new LawFromTheTree(), 7, 20, 1, 0, 1);
        sample().bounds(0, -1, 9, -1, "mist", 0, 0, 7, 20, 2, 1);
        sample().bounds(0, -4, 7, -6, "mist", 1, 9, 0, 2, 0, 0);
        sample().bounds(2, -4, 20, -6, "mist", 2, 9, 7, 2, 2, 0);
        sample().bounds(0, -2, 2, -2, "mist", 3, 9, 0, 2, 0, 0);
        sample().bounds(0, -2, 1, -2, "mist", 4, 9, 7, 20, 2, 0);
        sample().refused(-4, "mist", 0, 0, 0, 0, 0);
        // Each goes before what is told behind it.
        sample().refused(-1, "mist", 10, -1, 1, 3, 2);
        sample().refused(-1, "mist", -1, 8, 21, -1, -1);
        sample().refused(-4, "mist", 0, -1, 21, 3, 2);
        sample().refused(-4, "mist", 0, 8, 1, 3, 2);
        sample().refused(-6, "mist", 0, 8, 20, 3, 2);
        sample().refused(-6, "mist", 0, 7, 21, -1, -1);
        sample().refused(-2, "mist", 0, 7, 20, 3, 2);
        empty().bounds(0, -4, 7, -6, "mist", 1, 0, 0, 2, 0, 0);
    }

    private static void meanOfHeights() {
        CHECK.sentence("MEAN: of HEIGHTS: a fraction.");
        LawFromTheTree law = new LawFromTheTree();
        int sum = 0;
        for (int cell = 0; cell <= 15; cell++) {
            law.heaps(cell, 9);
            sum += 9;
            int common = greatestCommon(sum, 16);
            CHECK.due("mean(0) of " + sum, law.mean(0), sum / common);
            CHECK.due("mean(1) of " + sum, law.mean(1), 16 / common);
        }
        CHECK.due("all of 9", law.mean(0), 9);
        CHECK.due("all of 9, below the line", law.mean(1), 1);
    }

    private static int greatestCommon(int a, int b) {
        int common = 1;
        for (int i = 1; i <= b; i++) {
            common = a % i == 0 && b % i == 0 ? i : common;
        }
        return common;
    }

    private static void mean() {
        CHECK.sentence("`long mean(int part)`: MEAN. Refused as told: -2.");
        CHECK.due("flat, above the line", new LawFromTheTree().mean(0), 0);
        CHECK.due("flat, below the line", new LawFromTheTree().mean(1), 1);
        sample().bounds(0, -2, 1, -2, "mean", 0, 0);
        empty().bounds(0, -2, 1, -2, "mean", 0, 0);
    }

    private static void fractions() {
        CHECK.sentence("Fractions are told in least terms; 0 as 0 by 1.");
        LawFromTheTree law = new LawFromTheTree();
        long[][] due = {{0, 1}, {1, 16}, {1, 8}, {3, 16}, {1, 4}, {5, 16}, {3, 8}, {7, 16}, {1, 2}, {9, 16}};
        for (int height = 0; height <= 9; height++) {
            law.heaps(15, height);
            CHECK.due("mean(0) of " + height, law.mean(0), due[height][0]);
            CHECK.due("mean(1) of " + height, law.mean(1), due[height][1]);
        }
        law.heaps(15, 8);
        law.heaps(0, 8);
        CHECK.due("16 by 16, above", law.mean(0), 1);
        CHECK.due("16 by 16, below", law.mean(1), 1);
        // None of the ways, all of them, and 9 of 81.
        LawFromTheTree misty = Check.told("tt109;vt13;");
        fraction(misty, 2, 4, 2, 0, 1);
        fraction(misty, 2, 4, 1, 1, 1);
        fraction(misty, 4, 3, 0, 1, 9);
    }

    private static void whereItWas() {
        CHECK.sentence("WHERE IT WAS: a ROW tells VERDICTS from a BRANCH behind 0, 1, .. HOURS: CELLS (bits) a THING could be AT now "
            + "by which all of it is so; KINDS (bits) of it.");
        LawFromTheTree law = Check.told("c009;th105;vh13;");
        CHECK.due("no row: every cell", law.whereWas(0, 9, 0), 0xffff);
        CHECK.due("no row: every kind", law.whereWas(0, 9, 1), 63);
        // A horse behind the hill at 0 is seen on it alone: the verdict falls in one hour of 16.
        for (int seen = 0; seen < 16; seen++) {
            law.clear();
            for (int n = 0; n < 16; n++) {
                law.row(n == seen ? 1 : 0);
            }
            CHECK.due("16 verdicts, guilty behind " + seen, law.whereWas(0, 9, 0), 1 << (16 - seen) % 16);
        }
        law.clear();
        law.row(1);
        CHECK.due("one verdict", law.whereWas(0, 9, 0), 1);
        law.row(1);
        CHECK.due("no cell", law.whereWas(0, 9, 0), 0);
        law.clear();
        for (int number : new int[] {2, 3, 99}) {
            law.row(number);
            CHECK.due("a verdict of " + number, law.whereWas(0, 9, 0), 0);
            law.clear();
        }
        kindsOfIt();
    }

    private static void kindsOfIt() {
        // At the last cell behind a hill of 3, from branch 3: only what is higher is seen, now and in the next hour.
        LawFromTheTree law = Check.told("c003;tt315;vt11;vs11;vh11;vc11;vb11;vw11;");
        law.row(1);
        CHECK.due("a bird", law.whereWas(0, 3, 1), 0b010000);
        law.clear();
        law.row(0);
        law.row(1);
        CHECK.due("smoke of 3, or a horse that comes round", law.whereWas(0, 3, 1), 0b000110);
        law.row(1);
        CHECK.due("neither is seen behind 2", law.whereWas(0, 3, 1), 0);
        CHECK.due("the kind stays", law.thing(0, 0), 0);
        law.clear();
        law.row(0);
        CHECK.due("all but a bird", law.whereWas(0, 3, 1), 0b101111);
    }

    private static void whereWas() {
        CHECK.sentence("`int whereWas(int thing, int branch, int what)`: WHERE IT WAS by the ROW (it stays): "
            + "CELLS (what 0, bits), KINDS (1). -1 either; -2.");
        LawFromTheTree law = Check.told("th105;vh13;");
        for (int i = 1; i <= 16; i++) {
            law.row(1);
            CHECK.due(i + " verdicts: every cell", law.whereWas(0, 0, 0), 0xffff);
            CHECK.due("the row stays", law.count(6), i);
        }
        CHECK.due("the kind", law.whereWas(0, 0, 1), 0b000100);
        CHECK.due("it had them all", law.clear(), 16);
        sample().bounds(0, -1, 6, -1, "whereWas", 0, 0, 9, 1);
        sample().bounds(0, -1, 9, -1, "whereWas", 1, 6, 0, 0);
        sample().bounds(0, -2, 1, -2, "whereWas", 2, 6, 9, 0);
        sample().refused(-1, "whereWas", 7, 10, 2);
        sample().refused(-1, "whereWas", 7, 0, 2);
        sample().refused(-1, "whereWas", 0, 10, -1);
        empty().refused(-1, "whereWas", 0, 0, 0);
        LawFromTheTree last = Check.toldAtTheLastHour("c009;th001;vh13;");
        for (int n = 0; n < 16; n++) {
            last.row(n == 15 ? 1 : 0);
        }
        CHECK.due("in mind beyond 999", last.whereWas(0, 9, 0), 1 << 1);
    }

    private static void rowOfNumbers() {
        CHECK.sentence("A ROW of numbers (0 .. 99; 16 at most):");
        LawFromTheTree law = new LawFromTheTree();
        for (int i = 1; i <= 16; i++) {
            CHECK.due("number " + i, law.row(i % 2 == 0 ? 99 : 0), i);
        }
        CHECK.due("no room", law.row(0), -6);
        CHECK.due("16 there are", law.count(6), 16);
    }

    private static void row() {
        CHECK.sentence("`int row(int v)`: A number more of the ROW (0 .. 99): how many. -4; -6 (99; 16, too).");
        empty().bounds(0, -4, 99, -6, "row", 0, 0);
        Refusals last = new Refusals(CHECK, () -> withRow(15));
        last.bounds(0, -4, 99, -6, "row", 0, 0);
        Refusals full = new Refusals(CHECK, () -> withRow(16));
        for (int v : new int[] {0, 5, 99, 100, Integer.MAX_VALUE}) {
            full.refused(-6, "row", v);
        }
        // Below goes before no room.
        full.refused(-4, "row", -1);
        full.refused(-4, "row", Integer.MIN_VALUE);
    }

    private static LawFromTheTree withRow(int many) {
        LawFromTheTree law = new LawFromTheTree();
        for (int i = 0; i < many; i++) {
            law.row(0);
        }
        return law;
    }

    private static void judged() {
        CHECK.sentence("JUDGED: HEIGHTS of CELLS 0, 1, ..: the first that is not so (none there, too); -9.");
        // At each length of the row: all so, and each one of them not so.
        for (int length = 0; length <= 16; length++) {
            LawFromTheTree law = Check.told("c001;c012;c149;c158;");
            rowOfHeights(law, length, -1);
            CHECK.due("all of " + length + " so", law.judge(), -9);
            for (int wrong = 0; wrong < length; wrong++) {
                rowOfHeights(law, length, wrong);
                CHECK.due("of " + length + " one not so", law.judge(), wrong);
            }
        }
        LawFromTheTree law = Check.told("c001;");
        law.row(1);
        law.row(99);
        law.row(99);
        CHECK.due("the first of two", law.judge(), 1);
        law.row(10);
        CHECK.due("above any height", law.judge(), 0);
    }

    private static void rowOfHeights(LawFromTheTree law, int length, int wrong) {
        for (int cell = 0; cell < length; cell++) {
            law.row(law.height(cell) + (cell == wrong ? 1 : 0));
        }
    }

    private static void judge() {
        CHECK.sentence("`int judge()`: JUDGED; -9 (whichever it answers, the ROW has none then).");
        LawFromTheTree law = withRow(16);
        CHECK.due("16 of 0", law.judge(), -9);
        CHECK.due("none then", law.count(6), 0);
        CHECK.due("room again", law.row(7), 1);
        CHECK.due("not so", law.judge(), 0);
        CHECK.due("none then either", law.count(6), 0);
        CHECK.due("of none", law.judge(), -9);
        CHECK.due("none still", law.clear(), 0);
        for (int what = 11; what <= 16; what++) {
            CHECK.due("-9 is no refusal: count(" + what + ")", law.count(what), 0);
        }
    }

    private static void clear() {
        CHECK.sentence("`int clear()`: The ROW has none then: how many it had.");
        CHECK.due("none", new LawFromTheTree().clear(), 0);
        LawFromTheTree full = withRow(16);
        CHECK.due("16", full.clear(), 16);
        CHECK.due("none then", full.clear(), 0);
        CHECK.due("room again", full.row(99), 1);
        CHECK.due("one", full.clear(), 1);
        CHECK.due("what is behind it is new", full.judge(), -9);
    }

    private static void lotsWithASeed() {
        CHECK.sentence("LOTS with a seed z: n terms (1 .. 20), each from now: each THING, by numbers, AT a CELL by a DRAW below 16, "
            + "then a BRANCH by a DRAW below 10: how often the VERDICT from it is 1; how many are SEEN from it of all together.");
        for (int z : new int[] {0, 1, -1, 7, Integer.MAX_VALUE, Integer.MIN_VALUE}) {
            for (int n : new int[] {1, 2, 19, 20}) {
                // On a hill of 5 or ahead of it, or from above it; thing 1 is hidden, but draws.
                LawFromTheTree law = Check.told("c055;tt102;tt102;th107;vt15;vh29;x1;");
                Seed seed = new Seed(z);
                int guilty = 0;
                int seen = 0;
                for (int term = 0; term < n; term++) {
                    int tree = seed.draw(16);
                    seed.draw(16);
                    int horse = seed.draw(16);
                    int branch = seed.draw(10);
                    boolean seesTree = tree <= 5 || branch > 5;
                    boolean seesHorse = horse <= 5 || branch > 5;
                    guilty += seesTree && !seesHorse ? 1 : 0;
                    seen += (seesTree ? 1 : 0) + (seesHorse ? 1 : 0);
                }
                CHECK.due("lots(" + n + ", " + z + ", 0)", law.lots(n, z, 0), guilty);
                CHECK.due("lots(" + n + ", " + z + ", 1)", law.lots(n, z, 1), seen);
                CHECK.due("it stayed", law.thing(0, 2), 2);
            }
        }
        LawFromTheTree seven = Check.told("tt100;".repeat(7) + "vt10;");
        CHECK.due("always guilty", seven.lots(20, 5, 0), 20);
        CHECK.due("all seven in all terms", seven.lots(20, 5, 1), 140);
    }

    private static void draws() {
        CHECK.sentence("A DRAW below m: z becomes z times 1664525 and 1013904223 (an int); "
            + "(z without its sign's bit by 256, cut) modulo m.");
        // One thing on its way from cell 0: with eyes of e it is seen if its draw is below e.
        for (int z : new int[] {0, 1, -1, 1000, -1000, Integer.MAX_VALUE, Integer.MIN_VALUE, 0x12345678, 0x87654321}) {
            LawFromTheTree law = Check.told("tt100;");
            int cell = new Seed(z).draw(16);
            law.eyes(cell);
            CHECK.due("seed " + z + ": not nearer than " + cell, law.lots(1, z, 1), 0);
            law.eyes(cell + 1);
            CHECK.due("seed " + z + ": not farther than " + cell, law.lots(1, z, 1), 1);
        }
        // By hand: 1013904223 by 256 is 3960563.37; 3960563 modulo 16 is 3.
        LawFromTheTree zero = Check.told("tt100;e03;");
        CHECK.due("seed 0: not nearer than 3", zero.lots(1, 0, 1), 0);
        zero.eyes(4);
        CHECK.due("seed 0: cell 3", zero.lots(1, 0, 1), 1);
    }

    /** The draws, counted in longs. */
    private static final class Seed {
        private long z;

        Seed(int z) {
            this.z = z;
        }

        int draw(int below) {
            z = z * 1664525L + 1013904223L & 0xffffffffL;
            return (int) (z % 2147483648L / 256 % below);
        }
    }

    private static void lots() {
        CHECK.sentence("`int lots(int n, int z, int what)`: LOTS: VERDICT 1 (what 0), SEEN (1). -4; -6 20; -2.");
        CHECK.due("no things: never guilty", new LawFromTheTree().lots(20, 1, 0), 0);
        CHECK.due("no things: none seen", new LawFromTheTree().lots(20, 1, 1), 0);
        sample().bounds(1, -4, 20, -6, "lots", 0, 0, 7, 1);
        sample().bounds(0, -2, 1, -2, "lots", 2, 20, 7, 0);
        sample().refused(-4, "lots", 0, 7, 2);
        sample().refused(-6, "lots", 21, 7, -1);
        for (int z : new int[] {Integer.MIN_VALUE, -1, 0, 1, Integer.MAX_VALUE}) {
            sample().answered("lots", 20, z, 0);
            sample().answered("lots", 1, z, 1);
        }
        empty().bounds(1, -4, 20, -6, "lots", 0, 0, 0, 0);
    }
}
