/** The edges of promises 14 to 21: what is seen from which branch, now and up to 60 hours on. */
public final class SightEdgesTest {
    private static final Check CHECK = new Check("SightEdgesTest");

    public static void main(String[] args) {
        seenAndDecides();
        farthest();
        blind();
        seen();
        inMind();
        thingThen();
        seenThen();
        fallsWithinSixty();
        falls();
        sightWithinSixty();
        sight();
        agreeWithinSixty();
        agree();
        nextAbove();
        appeal();
        branchesAsBits();
        branches();
        CHECK.end();
    }

    private static Refusals sample() {
        return new Refusals(CHECK, RefusalOrderTest::sample);
    }

    private static Refusals empty() {
        return new Refusals(CHECK, LawFromTheTree::new);
    }

    /*
     * A cow of 4 goes into each sixth hour. Behind a hill at cell 0 it comes round to it, and is seen by all,
     * in the one land behind 60 hours (into hour 60), in the other behind 61 (into hour 66).
     */
    private static LawFromTheTree comesBehind60(int hill) {
        return Check.told("c00" + hill + ";tc406;vc13;");
    }

    private static LawFromTheTree comesBehind61(int hill) {
        return Check.told("c00" + hill + ";tc400;h05;d005;vc13;");
    }

    private static void seenAndDecides() {
        CHECK.sentence("SEEN (bits) from a BRANCH now; which THING decides (-9).");
        LawFromTheTree none = new LawFromTheTree();
        for (int branch = 0; branch <= 9; branch++) {
            CHECK.due("no things: seen(" + branch + ", 0)", none.seen(branch, 0), 0);
            CHECK.due("no things: seen(" + branch + ", 2)", none.seen(branch, 2), -9);
        }
        LawFromTheTree all = Check.told("tt100;".repeat(6) + "th015;vt15;");
        CHECK.due("all seven", all.seen(0, 0), 127);
        CHECK.due("the first decides", all.seen(0, 2), 0);
        all.decrees(2, 2, 6);
        CHECK.due("the last decides", all.seen(0, 2), 6);
        all.decrees(0, 0, 9);
        all.decrees(2, 0, 9);
        CHECK.due("none decides", all.seen(0, 2), -9);
    }

    private static void farthest() {
        CHECK.sentence("FARTHEST SEEN from a BRANCH, of several the least THING; -9.");
        CHECK.due("no things", new LawFromTheTree().seen(9, 3), -9);
        LawFromTheTree law = Check.told("tt100;tt100;tt115;tt115;tt014;");
        CHECK.due("of several at 15 the least", law.seen(0, 3), 2);
        law.hides(2);
        CHECK.due("the other at 15", law.seen(0, 3), 3);
        law.hides(3);
        CHECK.due("at 14 one of top 0 is not seen", law.seen(0, 3), 0);
        law.hides(0);
        CHECK.due("the other at 0", law.seen(0, 3), 1);
        law.eyes(0);
        CHECK.due("none is seen", law.seen(0, 3), -9);
    }

    private static void blind() {
        CHECK.sentence("BLIND: CELLS (bits) on which a THING whose TOP is 1 more than HEIGHT would not be SEEN from a BRANCH.");
        LawFromTheTree law = new LawFromTheTree();
        CHECK.due("over flat land none", law.seen(0, 4), 0);
        for (int eyes = 0; eyes <= 16; eyes++) {
            law.eyes(eyes);
            CHECK.due("with eyes of " + eyes, law.seen(0, 4), 0xffff << eyes & 0xffff);
        }
        LawFromTheTree hill = Check.told("c005;c024;c035;c046;");
        CHECK.due("behind a cell of 5 from 5: not 5 nor 6", hill.seen(5, 4), 0xffff & ~0b11001);
        CHECK.due("from 6 behind a cell of 6 alone", hill.seen(6, 4), 0xffe0);
        CHECK.due("from 7 none", hill.seen(7, 4), 0);
        LawFromTheTree full = new LawFromTheTree();
        for (int cell = 0; cell <= 15; cell++) {
            full.heaps(cell, 9);
        }
        CHECK.due("all of 9: tops of 10", full.seen(9, 4), 0);
        full.eyes(0);
        CHECK.due("all of 9, no eyes", full.seen(9, 4), 0xffff);
    }

    private static void seen() {
        CHECK.sentence("`int seen(int branch, int what)`: SEEN (what 0, bits), VERDICT (1), which decides (2; -9), "
            + "FARTHEST SEEN (3; -9), BLIND (4, bits). -1; -2.");
        LawFromTheTree none = new LawFromTheTree();
        int[] due = {0, 0, -9, -9, 0};
        for (int what = 0; what <= 4; what++) {
            CHECK.due("no things: seen(0, " + what + ")", none.seen(0, what), due[what]);
            CHECK.due("no things: seen(9, " + what + ")", none.seen(9, what), due[what]);
        }
        CHECK.due("-9 is no refusal", none.count(11) + none.count(12), 0);
        sample().bounds(0, -1, 9, -1, "seen", 0, 0, 4);
        sample().bounds(0, -2, 4, -2, "seen", 1, 9, 0);
        sample().refused(-1, "seen", 10, 5);
        sample().refused(-1, "seen", -1, -1);
        empty().bounds(0, -1, 9, -1, "seen", 0, 0, 0);
        empty().bounds(0, -2, 4, -2, "seen", 1, 0, 0);
    }

    private static void inMind() {
        CHECK.sentence("In mind, n HOURS on (0 .. 60): where a THING is; SEEN; VERDICT from a BRANCH.");
        LawFromTheTree law = comesBehind60(9);
        CHECK.due("where it is behind 0", law.thingThen(0, 0), 6);
        CHECK.due("where it is behind 59", law.thingThen(0, 59), 15);
        CHECK.due("where it is behind 60", law.thingThen(0, 60), 0);
        CHECK.due("seen behind 0", law.seenThen(9, 0, 0), 0);
        CHECK.due("seen behind 59", law.seenThen(9, 59, 0), 0);
        CHECK.due("seen behind 60", law.seenThen(9, 60, 0), 1);
        CHECK.due("verdict behind 59", law.seenThen(9, 59, 1), 0);
        CHECK.due("verdict behind 60", law.seenThen(9, 60, 1), 1);
        CHECK.due("in mind alone: the hour", law.count(1), 0);
        CHECK.due("in mind alone: the cell", law.thing(0, 2), 6);
        // In mind the hours go on beyond the last.
        LawFromTheTree last = Check.toldAtTheLastHour("th000;ts001;");
        CHECK.due("a horse behind 60 from 999", last.thingThen(0, 60), 60 % 16);
        CHECK.due("smoke of 0 at 999", last.seenThen(0, 0, 0), 0b11);
        CHECK.due("smoke of 0 at 1000", last.seenThen(0, 1, 0), 0b01);
        CHECK.due("still 999", last.count(1), 999);
    }

    private static void thingThen() {
        CHECK.sentence("`int thingThen(int thing, int n)`: Where it is. -1; -4; -6 60.");
        LawFromTheTree law = Check.told("tb015;" + "tt007;".repeat(5) + "th015;");
        CHECK.due("the first behind 0", law.thingThen(0, 0), 15);
        CHECK.due("the first behind 60", law.thingThen(0, 60), (15 + 120) % 16);
        CHECK.due("the last behind 0", law.thingThen(6, 0), 15);
        CHECK.due("the last behind 1, round", law.thingThen(6, 1), 0);
        sample().bounds(0, -1, 6, -1, "thingThen", 0, 0, 60);
        sample().bounds(0, -4, 60, -6, "thingThen", 1, 6, 0);
        sample().refused(-1, "thingThen", 7, -1);
        sample().refused(-1, "thingThen", -1, 61);
        empty().refused(-1, "thingThen", 0, 0);
        new Refusals(CHECK, () -> Check.toldAtTheLastHour("th000;")).bounds(0, -4, 60, -6, "thingThen", 1, 0, 0);
    }

    private static void seenThen() {
        CHECK.sentence("`int seenThen(int branch, int n, int what)`: SEEN (what 0, bits), VERDICT (1). -1; -4; -6 60; -2.");
        sample().bounds(0, -1, 9, -1, "seenThen", 0, 0, 60, 0);
        sample().bounds(0, -4, 60, -6, "seenThen", 1, 9, 0, 1);
        sample().bounds(0, -2, 1, -2, "seenThen", 2, 9, 60, 0);
        sample().refused(-1, "seenThen", 10, -1, 2);
        sample().refused(-1, "seenThen", -1, 61, -1);
        sample().refused(-4, "seenThen", 0, -1, 2);
        sample().refused(-6, "seenThen", 0, 61, 2);
        sample().refused(-6, "seenThen", 0, 61, -1);
        empty().bounds(0, -4, 60, -6, "seenThen", 1, 0, 0, 0);
    }

    private static void fallsWithinSixty() {
        CHECK.sentence("FALLS: behind how many HOURS (0 .. 60) the VERDICT from a BRANCH is v (0 .. 2) first; -9.");
        LawFromTheTree law = comesBehind60(9);
        CHECK.due("nothing behind 0", law.falls(9, 0), 0);
        CHECK.due("guilty behind 60", law.falls(9, 1), 60);
        CHECK.due("never free", law.falls(9, 2), -9);
        law.decrees(3, 2, 0);
        CHECK.due("free behind 60", law.falls(0, 2), 60);
        CHECK.due("behind 61 is too late", comesBehind61(9).falls(9, 1), -9);
        LawFromTheTree later = comesBehind61(9);
        later.hours(1);
        CHECK.due("but an hour later it is not", later.falls(9, 1), 60);
        CHECK.due("no hour went by", later.count(1), 6);
    }

    private static void falls() {
        CHECK.sentence("`int falls(int branch, int verdict)`: FALLS; -9. -1; -2.");
        LawFromTheTree none = new LawFromTheTree();
        CHECK.due("no things: nothing at once", none.falls(0, 0), 0);
        CHECK.due("no things: never guilty", none.falls(9, 1), -9);
        CHECK.due("no things: never free", none.falls(9, 2), -9);
        sample().bounds(0, -1, 9, -1, "falls", 0, 0, 2);
        sample().bounds(0, -2, 2, -2, "falls", 1, 9, 0);
        sample().refused(-1, "falls", 10, 3);
        sample().refused(-1, "falls", -1, -1);
        empty().bounds(0, -2, 2, -2, "falls", 1, 0, 0);
    }

    private static void sightWithinSixty() {
        CHECK.sentence("SIGHT: behind how many a THING is SEEN from a BRANCH first; -9; how many of 0 .. 60 HOURS it is so.");
        LawFromTheTree law = comesBehind60(9);
        CHECK.due("seen behind 60", law.sight(9, 0, 0), 60);
        CHECK.due("once", law.sight(9, 0, 1), 1);
        CHECK.due("behind 61 is too late", comesBehind61(9).sight(9, 0, 0), -9);
        CHECK.due("behind 61: never", comesBehind61(9).sight(9, 0, 1), 0);
        law.drives(0, 5);
        CHECK.due("not within 60", law.sight(9, 0, 0), -9);
        law.drives(0, 0);
        CHECK.due("on the hill now", law.sight(9, 0, 0), 0);
        CHECK.due("for six hours", law.sight(9, 0, 1), 6);
        law.heaps(0, 0);
        CHECK.due("all of 0 .. 60", law.sight(0, 0, 1), 61);
        law.hides(0);
        CHECK.due("hidden", law.sight(0, 0, 1), 0);
    }

    private static void sight() {
        CHECK.sentence("`int sight(int branch, int thing, int what)`: SIGHT: when (what 0; -9), how many (1). -1 either; -2.");
        sample().bounds(0, -1, 9, -1, "sight", 0, 0, 6, 0);
        sample().bounds(0, -1, 6, -1, "sight", 1, 9, 0, 1);
        sample().bounds(0, -2, 1, -2, "sight", 2, 9, 6, 0);
        sample().refused(-1, "sight", 10, 7, 2);
        sample().refused(-1, "sight", 0, 7, 2);
        sample().refused(-1, "sight", 10, 0, -1);
        empty().refused(-1, "sight", 0, 0, 0);
    }

    private static void agreeWithinSixty() {
        CHECK.sentence("AGREE: behind how many HOURS (0 .. 60) the VERDICTS from all BRANCHES are one first; -9.");
        // Behind a hill of 8 the cow is seen from branch 9 alone, on the hill from all.
        CHECK.due("behind 60", comesBehind60(8).agree(), 60);
        CHECK.due("behind 61 is too late", comesBehind61(8).agree(), -9);
        CHECK.due("behind a hill of 9 they are one at once", comesBehind60(9).agree(), 0);
        LawFromTheTree one = Check.told("c001;tt101;vt10;");
        CHECK.due("branches 0 and 1 see less than the others", one.agree(), -9);
        one.eyes(1);
        CHECK.due("all see nothing", one.agree(), 0);
        // From 9 alone another verdict than nothing, which the others have of another thing.
        LawFromTheTree two = Check.told("c018;tt100;th202;vt15;vh29;");
        CHECK.due("two verdicts", two.agree(), 14);
        two.decrees(2, 1, 9);
        CHECK.due("one verdict by two things", two.agree(), 0);
    }

    private static void agree() {
        CHECK.sentence("`int agree()`: AGREE; -9.");
        LawFromTheTree none = new LawFromTheTree();
        CHECK.due("no things", none.agree(), 0);
        LawFromTheTree never = Check.told("c008;tt101;vt10;");
        CHECK.due("never", never.agree(), -9);
        for (int what = 11; what <= 16; what++) {
            CHECK.due("-9 is no refusal: count(" + what + ")", never.count(what), 0);
        }
        CHECK.due("no hour went by", never.count(1), 0);
    }

    private static void nextAbove() {
        CHECK.sentence("APPEAL: the next BRANCH above one with another VERDICT now; -9.");
        for (int hill = 1; hill <= 8; hill++) {
            LawFromTheTree law = Check.told("c00" + hill + ";tt101;vt10;");
            for (int branch = 0; branch <= 9; branch++) {
                CHECK.due("a hill of " + hill + ": appeal(" + branch + ")", law.appeal(branch), branch <= hill ? hill + 1 : -9);
            }
        }
        LawFromTheTree nine = Check.told("c009;tt101;vt10;");
        CHECK.due("a hill of 9", nine.appeal(0), -9);
        // Verdict 0, then 1, then 2: above each the next.
        LawFromTheTree three = Check.told("c002;c026;tt101;th003;vt10;vh25;");
        CHECK.due("from 0", three.appeal(0), 3);
        CHECK.due("from 3", three.appeal(3), 7);
        CHECK.due("from 6", three.appeal(6), 7);
        CHECK.due("from 7", three.appeal(7), -9);
    }

    private static void appeal() {
        CHECK.sentence("`int appeal(int branch)`: APPEAL; -9. -1.");
        CHECK.due("no things", new LawFromTheTree().appeal(0), -9);
        CHECK.due("above 9 there is none", new LawFromTheTree().appeal(9), -9);
        sample().bounds(0, -1, 9, -1, "appeal", 0, 0);
        empty().bounds(0, -1, 9, -1, "appeal", 0, 0);
    }

    private static void branchesAsBits() {
        CHECK.sentence("BRANCHES with a VERDICT v now (bits).");
        for (int hill = 1; hill <= 9; hill++) {
            LawFromTheTree law = Check.told("c00" + hill + ";tt101;vt20;");
            int below = (2 << hill) - 1;
            CHECK.due("a hill of " + hill + ": nothing", law.branches(0), below & 1023);
            CHECK.due("a hill of " + hill + ": guilty", law.branches(1), 0);
            CHECK.due("a hill of " + hill + ": free", law.branches(2), 1023 & ~below);
        }
        CHECK.due("all free", Check.told("tt100;vt20;").branches(2), 1023);
    }

    private static void branches() {
        CHECK.sentence("`int branches(int verdict)`: BRANCHES with it (bits). -2.");
        CHECK.due("no things: nothing from all", new LawFromTheTree().branches(0), 1023);
        CHECK.due("no things: guilty from none", new LawFromTheTree().branches(1), 0);
        CHECK.due("no things: free from none", new LawFromTheTree().branches(2), 0);
        sample().bounds(0, -2, 2, -2, "branches", 0, 0);
        empty().bounds(0, -2, 2, -2, "branches", 0, 0);
    }
}
