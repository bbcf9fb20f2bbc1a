/** The edges of promises 22 to 29: the best branch, cell, things to hide, eyes, kind, window, pair. */
public final class SearchEdgesTest {
    private static final Check CHECK = new Check("SearchEdgesTest");

    public static void main(String[] args) {
        bestWithinThirty();
        best();
        driveTo();
        drive();
        hillOfNothing();
        screenOfNine();
        hill();
        hideFewest();
        hide();
        leastAndMostEyes();
        eyesBest();
        rankTen();
        ranked();
        longestRun();
        highest();
        same();
        lost();
        window();
        twoSides();
        pairs();
        two();
        CHECK.end();
    }

    private static Refusals sample() {
        return new Refusals(CHECK, RefusalOrderTest::sample);
    }

    private static Refusals empty() {
        return new Refusals(CHECK, LawFromTheTree::new);
    }

    private static void bestWithinThirty() {
        CHECK.sentence("BEST: the BRANCH from which the VERDICT is v in most of n HOURS on (0 .. n, n 0 .. 30), "
            + "of several the least; how many.");
        // A cow of 4 goes into each sixth hour: from cell 11 it is on the hill at cell 0 behind 30 hours.
        LawFromTheTree nine = Check.told("c009;tc411;vc13;");
        CHECK.due("within 30 once", nine.best(1, 30, 1), 1);
        CHECK.due("within 29 never", nine.best(1, 29, 1), 0);
        CHECK.due("nothing within 30", nine.best(0, 30, 1), 30);
        CHECK.due("nothing within 29", nine.best(0, 29, 1), 30);
        CHECK.due("of several the least", nine.best(1, 30, 0), 0);
        LawFromTheTree eight = Check.told("c008;tc411;vc13;");
        CHECK.due("from 9 alone all the time", eight.best(1, 30, 0), 9);
        CHECK.due("31 times, 0 and 30 too", eight.best(1, 30, 1), 31);
        CHECK.due("now alone", eight.best(1, 0, 1), 1);
        CHECK.due("now from 9", eight.best(1, 0, 0), 9);
        CHECK.due("now nothing, from 0", eight.best(0, 0, 0), 0);
        CHECK.due("never free: from 0", eight.best(2, 30, 0), 0);
        CHECK.due("never free: 0 times", eight.best(2, 30, 1), 0);
        CHECK.due("no hour went by", eight.count(1), 0);
        LawFromTheTree last = Check.toldAtTheLastHour("ts000;vs13;");
        CHECK.due("in mind beyond 999: 16 odd hours of 31", last.best(1, 30, 1), 16);
    }

    private static void best() {
        CHECK.sentence("`int best(int verdict, int n, int what)`: BEST (what 0), how many (1). -2; -4; -6 30.");
        CHECK.due("no things: branch 0", new LawFromTheTree().best(1, 30, 0), 0);
        CHECK.due("no things: nothing all the time", new LawFromTheTree().best(0, 30, 1), 31);
        sample().bounds(0, -2, 2, -2, "best", 0, 0, 30, 1);
        sample().bounds(0, -4, 30, -6, "best", 1, 2, 0, 0);
        sample().bounds(0, -2, 1, -2, "best", 2, 2, 0, 0);
        for (int n : new int[] {-1, 31}) {
            sample().refused(-2, "best", 3, n, 0);
            sample().refused(-2, "best", 0, n, 2);
            sample().refused(-2, "best", -1, n, -1);
        }
        empty().bounds(0, -4, 30, -6, "best", 1, 0, 0, 0);
    }

    private static void driveTo() {
        CHECK.sentence("DRIVE: the CELL to which a THING had best be driven now so that the VERDICT is v from most BRANCHES now, "
            + "more than as it is, of several the least; -9.");
        // A tree of 0 is seen on a hill alone.
        LawFromTheTree law = Check.told("c151;tt000;vt13;");
        CHECK.due("to the last cell", law.drive(0, 1), 15);
        law.heaps(15, 0);
        CHECK.due("to none", law.drive(0, 1), -9);
        law.heaps(0, 1);
        CHECK.due("as many as it is", law.drive(0, 1), -9);
        law.drives(0, 15);
        CHECK.due("to the first cell", law.drive(0, 1), 0);
        law.heaps(7, 1);
        law.heaps(9, 1);
        // From 7 and 9 it is seen from branch 2 on, behind a cell as high.
        CHECK.due("from most branches", law.drive(0, 1), 0);
        law.heaps(0, 0);
        CHECK.due("of several the least: 9 is behind 7", law.drive(0, 1), 7);
        law.drives(0, 9);
        CHECK.due("to 7, where all branches see it", law.drive(0, 1), 7);
        CHECK.due("to nothing from most", law.drive(0, 0), 0);
        law.eyes(0);
        CHECK.due("nothing is so from all as it is", law.drive(0, 0), -9);
        CHECK.due("never free", law.drive(0, 2), -9);
        CHECK.due("it stays", law.thing(0, 2), 9);
    }

    private static void drive() {
        CHECK.sentence("`int drive(int thing, int verdict)`: DRIVE; -9. -1; -2.");
        sample().bounds(0, -1, 6, -1, "drive", 0, 0, 2);
        sample().bounds(0, -2, 2, -2, "drive", 1, 6, 0);
        sample().refused(-1, "drive", 7, 3);
        sample().refused(-1, "drive", -1, -1);
        empty().refused(-1, "drive", 0, 0);
    }

    private static void hillOfNothing() {
        CHECK.sentence("HILL: the CELL which, of HEIGHT 0 now, lets most be SEEN from a BRANCH, more than as it is, "
            + "of several the least; -9.");
        LawFromTheTree last = Check.told("c149;tt115;");
        CHECK.due("the last that can be in the way", last.hill(9, 0), 14);
        last.heaps(14, 0);
        CHECK.due("none is in the way", last.hill(9, 0), -9);
        last.heaps(15, 9);
        CHECK.due("its own cell is not", last.hill(9, 0), -9);
        LawFromTheTree first = Check.told("c009;tt101;");
        CHECK.due("the first cell", first.hill(9, 0), 0);
        first.heaps(0, 1);
        CHECK.due("from above it", first.hill(2, 0), -9);
        CHECK.due("from as high", first.hill(1, 0), 0);
        first.heaps(0, 0);
        CHECK.due("of height 0 already", first.hill(0, 0), -9);
        // The hill at 2 hides the thing at 3, the one at 5 that at 6, which is above the hill at 2.
        LawFromTheTree two = Check.told("c023;c055;tt203;tt406;");
        CHECK.due("of several the least", two.hill(0, 0), 2);
        two.hides(0);
        CHECK.due("the other", two.hill(0, 0), 5);
        // What stands on the hill is as high above height 0 as above the hill: 1 is seen, 0 no more.
        LawFromTheTree upon = Check.told("c033;tt103;tt104;");
        CHECK.due("one of 1 on the hill stays in sight", upon.hill(0, 0), 3);
        upon.turn(0, 0, 0);
        CHECK.due("one of 0 on the hill is lost for one won", upon.hill(0, 0), -9);
        // Two hills hide one thing: neither alone lets it be seen.
        LawFromTheTree both = Check.told("c023;c053;tt106;");
        CHECK.due("not more than as it is", both.hill(0, 0), -9);
        CHECK.due("they stand", both.count(4), 6);
    }

    private static void screenOfNine() {
        CHECK.sentence("SCREEN: the CELL which, of HEIGHT 9 now, lets fewest be SEEN so, fewer than as it is, "
            + "of several the least; -9.");
        LawFromTheTree law = Check.told("tt115;");
        CHECK.due("of several the least", law.hill(9, 1), 0);
        // A flat thing comes in sight on a heap, so heaping its cell wins nothing.
        LawFromTheTree six = Check.told("tt000;tt001;tt002;tt003;tt004;tt005;tt115;");
        CHECK.due("behind six flat things", six.hill(9, 1), 6);
        six.drives(6, 6);
        CHECK.due("no cell ahead but theirs", six.hill(9, 1), -9);
        CHECK.due("none was heaped", six.count(4), 0);
        LawFromTheTree first = Check.told("tt100;");
        CHECK.due("nothing is ahead of cell 0", first.hill(9, 1), -9);
        LawFromTheTree nobody = Check.told("tt000;");
        CHECK.due("none is seen as it is", nobody.hill(9, 1), -9);
        // What stands on a heap of 9 is above it by as much as it is high.
        LawFromTheTree upon = Check.told("c005;tt001;tt102;");
        CHECK.due("from 6: heaping 1 shows one and hides one", upon.hill(6, 1), 0);
        LawFromTheTree high = Check.told("tt915;ts915;h01;");
        CHECK.due("a top of 9 is hidden, one of 10 isn't", high.hill(9, 1), 0);
        high.hides(0);
        CHECK.due("a top of 10", high.hill(9, 1), -9);
    }

    private static void hill() {
        CHECK.sentence("`int hill(int branch, int what)`: HILL (what 0), SCREEN (1); -9. -1; -2.");
        CHECK.due("no things: hill", new LawFromTheTree().hill(0, 0), -9);
        CHECK.due("no things: screen", new LawFromTheTree().hill(9, 1), -9);
        sample().bounds(0, -1, 9, -1, "hill", 0, 0, 1);
        sample().bounds(0, -2, 1, -2, "hill", 1, 9, 0);
        sample().refused(-1, "hill", 10, 2);
        sample().refused(-1, "hill", -1, -1);
        empty().bounds(0, -1, 9, -1, "hill", 0, 0, 0);
    }

    private static void hideFewest() {
        CHECK.sentence("HIDE: the fewest THINGS (bits, of several the least) to be HIDDEN besides now so that the VERDICT is v "
            + "from each BRANCH now; -9.");
        LawFromTheTree seven = Check.told("tt100;".repeat(7) + "vt11;");
        CHECK.due("as it is", seven.hide(1), 0);
        CHECK.due("all seven", seven.hide(0), 127);
        CHECK.due("never free", seven.hide(2), -9);
        seven.hides(3);
        CHECK.due("besides the hidden", seven.hide(0), 127 & ~8);
        CHECK.due("none was hidden by it", seven.count(3), 8);
        LawFromTheTree last = Check.told("tt100;".repeat(6) + "th000;vt11;vh22;");
        CHECK.due("the last alone", last.hide(1), 64);
        last.decrees(2, 2, 1);
        CHECK.due("of one rank the least thing decides", last.hide(1), 0);
        CHECK.due("all ahead of the last", last.hide(2), 63);
        // Seen from branch 9 alone: it must be hidden, since each branch counts.
        LawFromTheTree nine = Check.told("c008;tt101;th100;vt15;vh24;");
        CHECK.due("from each branch", nine.hide(2), 1);
        CHECK.due("never guilty from each", nine.hide(1), -9);
        CHECK.due("nothing from each", nine.hide(0), 3);
    }

    private static void hide() {
        CHECK.sentence("`int hide(int verdict)`: HIDE (bits; -9). -2.");
        CHECK.due("no things: nothing", new LawFromTheTree().hide(0), 0);
        CHECK.due("no things: guilty", new LawFromTheTree().hide(1), -9);
        CHECK.due("no things: free", new LawFromTheTree().hide(2), -9);
        sample().bounds(0, -2, 2, -2, "hide", 0, 0);
        empty().bounds(0, -2, 2, -2, "hide", 0, 0);
    }

    private static void leastAndMostEyes() {
        CHECK.sentence("EYES BEST: the least EYES with which the VERDICT from a BRANCH is v now; -9; the most; -9.");
        LawFromTheTree law = Check.told("tt115;vt13;");
        eyes(law, 1, 16, 16);
        eyes(law, 0, 0, 15);
        eyes(law, 2, -9, -9);
        law.drives(0, 0);
        eyes(law, 1, 1, 16);
        eyes(law, 0, 0, 0);
        law.hides(0);
        eyes(law, 0, 0, 16);
        eyes(law, 1, -9, -9);
        law.eyes(0);
        eyes(law, 0, 0, 16);
        CHECK.due("eyes stay", law.count(2), 0);
        // Guilty, then free, then guilty again: the least and the most of them.
        LawFromTheTree thrice = Check.told("tt103;th006;tb009;vt13;vh24;vb15;");
        eyes(thrice, 1, 4, 16);
        eyes(thrice, 2, 7, 9);
        eyes(thrice, 0, 0, 3);
    }

    private static void eyes(LawFromTheTree law, int verdict, int least, int most) {
        CHECK.due("eyesBest(0, " + verdict + ", 0)", law.eyesBest(0, verdict, 0), least);
        CHECK.due("eyesBest(0, " + verdict + ", 1)", law.eyesBest(0, verdict, 1), most);
    }

    private static void eyesBest() {
        CHECK.sentence("`int eyesBest(int branch, int verdict, int what)`: EYES BEST: the least (what 0; -9), the most (1; -9). "
            + "-1; -2.");
        eyes(new LawFromTheTree(), 0, 0, 16);
        eyes(new LawFromTheTree(), 1, -9, -9);
        sample().bounds(0, -1, 9, -1, "eyesBest", 0, 0, 2, 1);
        sample().bounds(0, -2, 2, -2, "eyesBest", 1, 9, 0, 1);
        sample().bounds(0, -2, 1, -2, "eyesBest", 2, 9, 2, 0);
        sample().refused(-1, "eyesBest", 10, 3, 2);
        sample().refused(-1, "eyesBest", -1, -1, -1);
        empty().bounds(0, -2, 2, -2, "eyesBest", 1, 0, 0, 0);
    }

    private static void rankTen() {
        CHECK.sentence("RANKED: the KIND which, of RANK 10 now, makes VERDICT v from most BRANCHES, of several the least; how many.");
        // Both of rank 9, so only 10 brings the washing, the later thing, ahead.
        LawFromTheTree law = Check.told("tt100;tw000;vt19;vw29;");
        CHECK.due("the last kind", law.ranked(2, 0), 5);
        CHECK.due("from all", law.ranked(2, 1), 10);
        CHECK.due("guilty by any but the last: the least", law.ranked(1, 0), 0);
        CHECK.due("from all", law.ranked(1, 1), 10);
        CHECK.due("nothing by none: the least", law.ranked(0, 0), 0);
        CHECK.due("from none", law.ranked(0, 1), 0);
        CHECK.due("ranks stay", law.count(5), 18);
        law.decrees(5, 0, 0);
        CHECK.due("a rank makes no verdict", law.ranked(2, 1), 0);
        // The cow behind a hill of 8 is seen from 9 alone, the horse behind one of 7 from 8 and 9.
        LawFromTheTree some = Check.told("c008;tt100;tc901;vt15;vc20;");
        CHECK.due("free from one branch", some.ranked(2, 1), 1);
        CHECK.due("by the cow", some.ranked(2, 0), 3);
        some.heaps(0, 7);
        CHECK.due("free from two", some.ranked(2, 1), 2);
    }

    private static void ranked() {
        CHECK.sentence("`int ranked(int verdict, int what)`: RANKED: the KIND (what 0), how many (1). -2 either.");
        CHECK.due("no things: the least", new LawFromTheTree().ranked(1, 0), 0);
        CHECK.due("no things: from none", new LawFromTheTree().ranked(1, 1), 0);
        CHECK.due("no things: nothing from all", new LawFromTheTree().ranked(0, 1), 10);
        sample().bounds(0, -2, 2, -2, "ranked", 0, 0, 1);
        sample().bounds(0, -2, 1, -2, "ranked", 1, 2, 0);
        sample().refused(-2, "ranked", 3, 2);
        empty().bounds(0, -2, 2, -2, "ranked", 0, 0, 0);
    }

    private static void longestRun() {
        CHECK.sentence("WINDOW: the longest run of BRANCHES one above the other with one VERDICT; the lowest of the first such.");
        for (int hill = 1; hill <= 9; hill++) {
            LawFromTheTree law = Check.told("c00" + hill + ";tt101;vt10;");
            // From 0 .. hill nothing, above it guilty; of two runs of 5 the lower one is the first.
            int below = hill + 1;
            CHECK.due("a hill of " + hill + ": longest", law.window(0), Math.max(below, 10 - below));
            CHECK.due("a hill of " + hill + ": lowest", law.window(1), below >= 10 - below ? 0 : below);
        }
        // Three runs: 0 .. 2 nothing, 3 .. 6 guilty, 7 .. 9 free.
        LawFromTheTree three = Check.told("c002;c026;tt101;th003;vt10;vh25;");
        CHECK.due("the one between: longest", three.window(0), 4);
        CHECK.due("the one between: lowest", three.window(1), 3);
        // One verdict above and below another is no one run: 0 .. 2 free, 3 .. 5 guilty, 6 .. 9 free.
        three.heaps(2, 5);
        three.decrees(1, 2, 0);
        Check.tell(three, "ts100;");
        CHECK.due("the upper one: longest", three.window(0), 4);
        CHECK.due("the upper one: lowest", three.window(1), 6);
    }

    private static void highest() {
        CHECK.sentence("HIGHEST: the THING of highest TOP, of several the least; -9.");
        CHECK.due("no things", new LawFromTheTree().window(2), -9);
        LawFromTheTree law = Check.told("tt000;tt001;ts902;");
        CHECK.due("the smoke", law.window(2), 2);
        law.hides(2);
        CHECK.due("hidden, but highest", law.window(2), 2);
        law.turn(2, 1, 0);
        CHECK.due("all of top 0: the least", law.window(2), 0);
        law.hours(1);
        CHECK.due("smoke of 1", law.window(2), 2);
        law.heaps(1, 1);
        CHECK.due("two of top 1: the least", law.window(2), 1);
    }

    private static void same() {
        CHECK.sentence("SAME: how many twos of THINGS are in one CELL.");
        CHECK.due("no things", new LawFromTheTree().window(3), 0);
        CHECK.due("one thing", Check.told("tt000;").window(3), 0);
        for (int many = 2; many <= 7; many++) {
            CHECK.due(many + " in cell 15", Check.told("tt015;".repeat(many)).window(3), many * (many - 1) / 2);
        }
        LawFromTheTree law = Check.told("tt000;tt015;");
        CHECK.due("in two cells", law.window(3), 0);
        law.drives(0, 15);
        law.hides(0);
        CHECK.due("hidden, but in one cell", law.window(3), 1);
    }

    private static void lost() {
        CHECK.sentence("LOST: THINGS (bits) SEEN from no BRANCH.");
        CHECK.due("no things", new LawFromTheTree().window(4), 0);
        LawFromTheTree law = Check.told("tt115;".repeat(7));
        CHECK.due("none is lost", law.window(4), 0);
        law.heaps(0, 8);
        CHECK.due("seen from 9 alone", law.window(4), 0);
        law.heaps(0, 9);
        CHECK.due("all are lost", law.window(4), 127);
        law.drives(6, 0);
        CHECK.due("all but the last", law.window(4), 63);
        law.heaps(0, 0);
        law.hides(0);
        CHECK.due("the hidden one", law.window(4), 1);
        law.eyes(15);
        CHECK.due("those too far", law.window(4), 63);
    }

    private static void window() {
        CHECK.sentence("`int window(int what)`: WINDOW: how many (what 0), the lowest (1), HIGHEST (2; -9), SAME (3), "
            + "LOST (4, bits). -2.");
        int[] none = {10, 0, -9, 0, 0};
        for (int what = 0; what <= 4; what++) {
            CHECK.due("no things: window(" + what + ")", new LawFromTheTree().window(what), none[what]);
        }
        sample().bounds(0, -2, 4, -2, "window", 0, 0);
        empty().bounds(0, -2, 4, -2, "window", 0, 0);
    }

    private static void twoSides() {
        CHECK.sentence("TWO sides, each drives a told THING 1 CELL on (1; round) or not (0) now: the first wants VERDICT 1, "
            + "the second 2 from most of BRANCHES behind n HOURS (0 .. 30):");
        // A cow of 4 goes into each sixth hour; a hill at cell 0 hides all that is not on it.
        LawFromTheTree law = Check.told("c009;tc411;tt005;vc13;");
        CHECK.due("behind 30 it is on the hill if it stays", law.two(0, 1, 30), 0);
        CHECK.due("behind 29 if it is driven", law.two(0, 1, 29), 10);
        law.drives(0, 15);
        CHECK.due("behind 0 if it is driven round", law.two(0, 1, 0), 10);
        law.decrees(3, 2, 3);
        CHECK.due("the second's cow, driven round", law.two(1, 0, 0), 1);
        law.drives(0, 10);
        CHECK.due("the second's cow behind 30, driven", law.two(1, 0, 30), 1);
        CHECK.due("no hour went by", law.count(1), 0);
        CHECK.due("none was driven", law.thing(0, 2), 10);
        LawFromTheTree last = Check.toldAtTheLastHour("c009;th001;tt005;vh13;");
        CHECK.due("in mind beyond 999: in 14, driven in 15 behind 13", last.two(0, 1, 13), 0);
        CHECK.due("in mind beyond 999: in 15, driven in 0 behind 14", last.two(0, 1, 14), 10);
    }

    private static void pairs() {
        CHECK.sentence("the first pair (10 the first's and the other's) by which neither has it better by another one alone "
            + "(each has: from how many it is his VERDICT less from how many the other's); -9.");
        // No verdict at all: each pair would do, so it is the first.
        CHECK.due("all alike", Check.told("tt000;tt000;").two(0, 1, 0), 0);
        // Both on a hill of 9 that hides what is behind it.
        CHECK.due("each keeps his own in sight", Check.told("c059;tt105;th005;vt13;vh23;").two(0, 1, 0), 0);
        CHECK.due("each takes the other's out of sight", Check.told("c059;tt105;th005;vt23;vh13;").two(0, 1, 0), 11);
        LawFromTheTree mixed = Check.told("c059;tt115;th005;vt13;vh22;");
        CHECK.due("the first comes round into sight", mixed.two(0, 1, 0), 10);
        mixed.decrees(2, 2, 4);
        CHECK.due("but the second decides: the first stays", mixed.two(0, 1, 0), 0);
        LawFromTheTree second = Check.told("c059;tt105;th015;vt13;vh24;");
        CHECK.due("the second comes round into sight", second.two(0, 1, 0), 1);
        // Less the other's: of a free thing the first is rid by driving it, though he wins no branch.
        LawFromTheTree less = Check.told("c059;tt105;th015;vt23;");
        CHECK.due("rid of the other's", less.two(0, 1, 0), 10);
        // From how many: from 9 alone at the last cell, from all if driven round to the hill.
        LawFromTheTree more = Check.told("c008;tt115;th005;vt13;");
        CHECK.due("from ten rather than from one", more.two(0, 1, 0), 10);
        more.decrees(0, 2, 3);
        CHECK.due("the second's from ten rather than from one", more.two(1, 0, 0), 1);
        CHECK.due("the first's to be rid of: from one rather than from ten", more.two(0, 1, 0), 0);
    }

    private static void two() {
        CHECK.sentence("`int two(int a, int b, int n)`: TWO, by two THINGS; -9. -1 either (one twice, too); -4; -6 30.");
        sample().bounds(0, -1, 6, -1, "two", 0, 0, 3, 30);
        sample().bounds(0, -1, 6, -1, "two", 1, 3, 0, 0);
        sample().bounds(0, -4, 30, -6, "two", 2, 6, 0, 0);
        for (int thing = 0; thing <= 6; thing++) {
            sample().refused(-1, "two", thing, thing, 0);
        }
        sample().refused(-1, "two", 0, 0, -1);
        sample().refused(-1, "two", 6, 6, 31);
        sample().refused(-1, "two", 7, 7, 0);
        sample().refused(-1, "two", 7, 0, -1);
        sample().refused(-1, "two", 0, -1, 31);
        empty().refused(-1, "two", 0, 1, 0);
        Refusals one = new Refusals(CHECK, () -> Check.told("tt000;"));
        one.refused(-1, "two", 0, 1, 0);
        one.refused(-1, "two", 0, 0, 0);
    }
}
