/** The edges of promises 4 to 13: what is told of things, cells and the code, and what changes them by hand. */
public final class HandEdgesTest {
    private static final Check CHECK = new Check("HandEdgesTest");

    public static void main(String[] args) {
        thing();
        height();
        code();
        heaps();
        drives();
        hides();
        decrees();
        eyes();
        turn();
        hours();
        CHECK.end();
    }

    // Seven things, an image, a row, and letters.
    private static Refusals sample() {
        return new Refusals(CHECK, RefusalOrderTest::sample);
    }

    private static Refusals empty() {
        return new Refusals(CHECK, LawFromTheTree::new);
    }

    private static void thing() {
        CHECK.sentence("`int thing(int thing, int what)`: Of a THING: 0 KIND (0 t, 1 s, 2 h, 3 c, 4 b, 5 w), 1 FIGURE, "
            + "2 CELL, 3 1 HIDDEN, 0, 4 TOP, 5 how many CELLS it goes in the next HOUR. -1; -2.");
        for (int kind = 0; kind < 6; kind++) {
            LawFromTheTree law = Check.told("t" + "tshcbw".charAt(kind) + "915;");
            CHECK.due("what 0 of " + kind, law.thing(0, 0), kind);
            CHECK.due("what 1", law.thing(0, 1), 9);
            CHECK.due("what 2", law.thing(0, 2), 15);
            CHECK.due("what 3", law.thing(0, 3), 0);
            law.hides(0);
            CHECK.due("what 3, hidden", law.thing(0, 3), 1);
        }
        LawFromTheTree least = Check.told("tt000;");
        for (int what = 0; what <= 5; what++) {
            CHECK.due("a tree of 0 at 0: what " + what, least.thing(0, what), 0);
        }
        // The greatest top: a cell of 9, smoke of 9, an odd hour.
        LawFromTheTree most = Check.told("c159;ts915;h01;");
        CHECK.due("the greatest top", most.thing(0, 4), 19);
        sample().bounds(0, -1, 6, -1, "thing", 0, 0, 0);
        sample().bounds(0, -2, 5, -2, "thing", 1, 6, 0);
        sample().refused(-1, "thing", 7, 6);
        sample().refused(-1, "thing", -1, -1);
        empty().refused(-1, "thing", 0, 0);
        nextHour();
    }

    private static void nextHour() {
        LawFromTheTree law = Check.told("tc000;th000;tb000;");
        for (int hour = 0; hour < 4; hour++) {
            CHECK.due("a cow of 0 at " + hour, law.thing(0, 5), hour % 2);
            CHECK.due("a horse at " + hour, law.thing(1, 5), 1);
            CHECK.due("a bird at " + hour, law.thing(2, 5), 2);
            law.hours(1);
        }
        LawFromTheTree last = Check.toldAtTheLastHour("tc000;tc100;th000;");
        CHECK.due("a cow of 0 at 999", last.thing(0, 5), 1);
        CHECK.due("a cow of 1 at 999", last.thing(1, 5), 0);
        CHECK.due("a horse at 999", last.thing(2, 5), 1);
    }

    private static void height() {
        CHECK.sentence("`int height(int cell)`: HEIGHT. -1.");
        LawFromTheTree law = Check.told("c009;c158;");
        CHECK.due("height(0)", law.height(0), 9);
        CHECK.due("height(15)", law.height(15), 8);
        CHECK.due("height(14)", law.height(14), 0);
        sample().bounds(0, -1, 15, -1, "height", 0, 0);
        empty().bounds(0, -1, 15, -1, "height", 0, 0);
    }

    private static void code() {
        CHECK.sentence("`int code(int kind, int what)`: Of THE CODE for a KIND: VERDICT (what 0), RANK (1). -2 either.");
        LawFromTheTree law = Check.told("vt29;vw10;");
        CHECK.due("code(0, 0)", law.code(0, 0), 2);
        CHECK.due("code(0, 1)", law.code(0, 1), 9);
        CHECK.due("code(5, 0)", law.code(5, 0), 1);
        CHECK.due("code(5, 1)", law.code(5, 1), 0);
        sample().bounds(0, -2, 5, -2, "code", 0, 0, 0);
        sample().bounds(0, -2, 1, -2, "code", 1, 5, 0);
        sample().refused(-2, "code", 6, 2);
        empty().bounds(0, -2, 5, -2, "code", 0, 0, 1);
    }

    private static void heaps() {
        CHECK.sentence("`int heaps(int cell, int v)`: HEIGHT becomes v: what it was. -1; -4; -6 9.");
        LawFromTheTree law = new LawFromTheTree();
        for (int cell : new int[] {0, 15}) {
            CHECK.due("from 0 to 9", law.heaps(cell, 9), 0);
            CHECK.due("from 9 to 9", law.heaps(cell, 9), 9);
            CHECK.due("from 9 to 0", law.heaps(cell, 0), 9);
            CHECK.due("from 0 to 0", law.heaps(cell, 0), 0);
        }
        sample().bounds(0, -1, 15, -1, "heaps", 0, 0, 5);
        sample().bounds(0, -4, 9, -6, "heaps", 1, 15, 0);
        sample().refused(-1, "heaps", 16, -1);
        sample().refused(-1, "heaps", -1, 10);
        empty().bounds(0, -4, 9, -6, "heaps", 1, 0, 0);
    }

    private static void drives() {
        CHECK.sentence("`int drives(int thing, int cell)`: It is driven there: where it was. -1 either.");
        LawFromTheTree law = Check.told("th007;".repeat(7));
        CHECK.due("the first to 0", law.drives(0, 0), 7);
        CHECK.due("the first to 15", law.drives(0, 15), 0);
        CHECK.due("where it is", law.drives(0, 15), 15);
        CHECK.due("the last to 15", law.drives(6, 15), 7);
        CHECK.due("the one ahead stayed", law.thing(5, 2), 7);
        law.hides(6);
        CHECK.due("a hidden one too", law.drives(6, 0), 15);
        sample().bounds(0, -1, 6, -1, "drives", 0, 0, 15);
        sample().bounds(0, -1, 15, -1, "drives", 1, 6, 0);
        sample().refused(-1, "drives", 7, 16);
        empty().refused(-1, "drives", 0, 0);
    }

    private static void hides() {
        CHECK.sentence("`int hides(int thing)`: HIDDEN, or not any more: 1, 0. -1.");
        LawFromTheTree law = Check.told("th007;".repeat(7));
        for (int thing = 0; thing < 7; thing++) {
            CHECK.due("hides(" + thing + ")", law.hides(thing), 1);
            CHECK.due("all so far", law.count(3), (2 << thing) - 1);
        }
        for (int thing = 0; thing < 7; thing++) {
            CHECK.due("hides(" + thing + ") again", law.hides(thing), 0);
            CHECK.due("its hidden", law.thing(thing, 3), 0);
        }
        CHECK.due("none any more", law.count(3), 0);
        sample().bounds(0, -1, 6, -1, "hides", 0, 0);
        sample().refused(-1, "hides", 32);
        empty().refused(-1, "hides", 0);
    }

    private static void decrees() {
        CHECK.sentence("`int decrees(int kind, int verdict, int rank)`: THE CODE says so: 10 times the VERDICT and the RANK "
            + "it had. -2 either; -4; -6 9.");
        LawFromTheTree law = new LawFromTheTree();
        for (int kind : new int[] {0, 5}) {
            CHECK.due("the greatest", law.decrees(kind, 2, 9), 0);
            CHECK.due("the least", law.decrees(kind, 0, 0), 29);
            CHECK.due("a rank without a verdict", law.decrees(kind, 0, 9), 0);
            CHECK.due("a verdict without a rank", law.decrees(kind, 1, 0), 9);
            CHECK.due("which it had", law.decrees(kind, 0, 0), 10);
        }
        sample().bounds(0, -2, 5, -2, "decrees", 0, 0, 1, 5);
        sample().bounds(0, -2, 2, -2, "decrees", 1, 5, 0, 5);
        sample().bounds(0, -4, 9, -6, "decrees", 2, 5, 2, 0);
        sample().refused(-2, "decrees", 6, 3, -1);
        sample().refused(-2, "decrees", 0, 3, 10);
        sample().refused(-2, "decrees", -1, 0, -1);
    }

    private static void eyes() {
        CHECK.sentence("`int eyes(int v)`: EYES become v: what they were. -4; -6 16.");
        LawFromTheTree law = new LawFromTheTree();
        CHECK.due("to 0", law.eyes(0), 16);
        CHECK.due("from 0 to 0", law.eyes(0), 0);
        CHECK.due("to 16", law.eyes(16), 0);
        CHECK.due("from 16 to 15", law.eyes(15), 16);
        CHECK.due("they are", law.count(2), 15);
        sample().bounds(0, -4, 16, -6, "eyes", 0, 0);
        empty().bounds(0, -4, 16, -6, "eyes", 0, 0);
    }

    private static void turn() {
        CHECK.sentence("`int turn(int thing, int kind, int figure)`: KIND, FIGURE become others: 10 times the KIND and the "
            + "FIGURE it had. -1; -2; -4; -6 9.");
        LawFromTheTree law = Check.told("tt003;".repeat(7));
        CHECK.due("the first to the greatest", law.turn(0, 5, 9), 0);
        CHECK.due("the first to the least", law.turn(0, 0, 0), 59);
        CHECK.due("the last", law.turn(6, 4, 8), 0);
        CHECK.due("the same again", law.turn(6, 4, 8), 48);
        CHECK.due("the one ahead stayed", law.thing(5, 0), 0);
        law.hides(6);
        law.turn(6, 0, 1);
        CHECK.due("it stays hidden", law.thing(6, 3), 1);
        CHECK.due("it stays there", law.thing(6, 2), 3);
        sample().bounds(0, -1, 6, -1, "turn", 0, 0, 0, 0);
        sample().bounds(0, -2, 5, -2, "turn", 1, 6, 0, 0);
        sample().bounds(0, -4, 9, -6, "turn", 2, 6, 5, 0);
        sample().refused(-1, "turn", 7, 6, -1);
        sample().refused(-1, "turn", -1, -1, 10);
        sample().refused(-2, "turn", 0, 6, -1);
        sample().refused(-2, "turn", 0, -1, 10);
        empty().refused(-1, "turn", 0, 0, 0);
    }

    private static void hours() {
        CHECK.sentence("`int hours(int n)`: n HOURS (1 .. 60) go by: HOUR. -4; -6 (60; HOUR above 999).");
        LawFromTheTree law = Check.told("th015;");
        CHECK.due("the least", law.hours(1), 1);
        CHECK.due("round", law.thing(0, 2), 0);
        CHECK.due("the greatest", law.hours(60), 61);
        CHECK.due("60 cells on", law.thing(0, 2), 60 % 16);
        sample().bounds(1, -4, 60, -6, "hours", 0, 0);
        empty().bounds(1, -4, 60, -6, "hours", 0, 0);
        for (int left = 1; left <= 60; left++) {
            int rest = left;
            Refusals late = new Refusals(CHECK, () -> at(999 - rest));
            late.answered("hours", left);
            late.refused(-6, "hours", left + 1);
            CHECK.due("the last hour from " + (999 - left), at(999 - left).hours(left), 999);
        }
        Refusals last = new Refusals(CHECK, () -> at(999));
        last.refused(-6, "hours", 1);
        last.refused(-6, "hours", 60);
        last.refused(-6, "hours", 61);
        last.refused(-6, "hours", Integer.MAX_VALUE);
        last.refused(-4, "hours", 0);
        last.refused(-4, "hours", Integer.MIN_VALUE);
    }

    private static LawFromTheTree at(int hour) {
        LawFromTheTree law = Check.told("th000;tc300;");
        for (int left = hour; left > 0; left -= 60) {
            law.hours(Math.min(60, left));
        }
        return law;
    }
}
