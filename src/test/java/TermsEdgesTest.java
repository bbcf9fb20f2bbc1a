/** The edges that the document's "Terms" name: of cells, things, eyes, the code, hours, kinds, and of what is seen. */
public final class TermsEdgesTest {
    private static final Check CHECK = new Check("TermsEdgesTest");
    private static final String KINDS = "tshcbw";

    public static void main(String[] args) {
        cells();
        theTree();
        branches();
        things();
        figures();
        hidden();
        eyes();
        code();
        hour();
        round();
        tree();
        smoke();
        horse();
        cow();
        bird();
        washing();
        asAboveThem();
        seenNotHidden();
        seenNoFarther();
        seenAboveNothing();
        seenOverCells();
        verdict();
        anHour();
        CHECK.end();
    }

    private static Refusals refusals(String... texts) {
        return new Refusals(CHECK, () -> Check.told(texts));
    }

    private static void cells() {
        CHECK.sentence("CELLS 0 .. 15 in a line, HEIGHT of each (0 .. 9; 0 at first);");
        LawFromTheTree law = new LawFromTheTree();
        for (int cell = 0; cell <= 15; cell++) {
            CHECK.due("at first: height(" + cell + ")", law.height(cell), 0);
            CHECK.due("heaps(" + cell + ", 9)", law.heaps(cell, 9), 0);
            CHECK.due("height(" + cell + ")", law.height(cell), 9);
            // In a line: what is behind this cell is hidden by it, what is ahead of it is not.
            CHECK.due("blind behind " + cell, law.seen(9, 4), 0xffff << cell + 1 & 0xffff);
            CHECK.due("heaps(" + cell + ", 0)", law.heaps(cell, 0), 9);
        }
        refusals("tt000;").bounds(0, -1, 15, -1, "height", 0, 0);
        refusals("tt000;").bounds(0, -1, 15, -1, "heaps", 0, 0, 5);
        refusals("tt000;").bounds(0, -1, 15, -1, "drives", 1, 0, 0);
        refusals("c007;c154;").bounds(0, -4, 9, -6, "heaps", 1, 0, 5);
        refusals("c007;c154;").bounds(0, -4, 9, -6, "heaps", 1, 15, 5);
    }

    private static void theTree() {
        CHECK.sentence("THE TREE is ahead of CELL 0;");
        // However high all cells are, nothing is in the way of cell 0; what is behind it is hidden.
        LawFromTheTree law = Check.told("th000;th001;th015;");
        for (int height = 0; height <= 9; height++) {
            for (int cell = 0; cell <= 15; cell++) {
                law.heaps(cell, height);
            }
            for (int branch = 0; branch <= 9; branch++) {
                CHECK.due("all " + height + ": seen(" + branch + ", 0) of cell 0", law.seen(branch, 0) & 1, 1);
            }
        }
        CHECK.due("all 9, tops of 10", law.seen(0, 0), 0b111);
        law.heaps(1, 0);
        CHECK.due("cell 1 of 0 behind cell 0 of 9", law.seen(0, 0), 0b101);
        law.heaps(0, 0);
        CHECK.due("cell 1 of 0 behind cell 0 of 0", law.seen(0, 0), 0b111);
        law.heaps(15, 0);
        CHECK.due("cell 15 of 0 behind cells of 9", law.seen(0, 0), 0b011);
    }

    private static void branches() {
        CHECK.sentence("BRANCHES 0 .. 9, of that height each.");
        LawFromTheTree law = Check.told("th001;");
        for (int height = 0; height <= 9; height++) {
            law.heaps(0, height);
            for (int branch = 0; branch <= 9; branch++) {
                // A horse of top 1: hidden by a cell as high as the branch, if it is not lower than 1.
                int due = height >= 1 && height >= branch ? 0 : 1;
                CHECK.due("cell 0 of " + height + ": seen(" + branch + ", 0)", law.seen(branch, 0), due);
            }
        }
        Refusals some = refusals("c034;th105;vh13;");
        some.bounds(0, -1, 9, -1, "seen", 0, 0, 0);
        some.bounds(0, -1, 9, -1, "seenThen", 0, 0, 3, 0);
        some.bounds(0, -1, 9, -1, "falls", 0, 0, 1);
        some.bounds(0, -1, 9, -1, "sight", 0, 0, 0, 0);
        some.bounds(0, -1, 9, -1, "appeal", 0, 0);
        some.bounds(0, -1, 9, -1, "hill", 0, 0, 0);
        some.bounds(0, -1, 9, -1, "eyesBest", 0, 0, 1, 0);
        some.bounds(0, -1, 9, -1, "mist", 0, 0, 3, 4, 1, 0);
        some.bounds(0, -1, 9, -1, "whereWas", 1, 0, 0, 0);
    }

    private static void things() {
        CHECK.sentence("THINGS 0 .. as they come (7 at most): KIND, FIGURE (0 .. 9), AT a CELL, HIDDEN or not");
        LawFromTheTree law = new LawFromTheTree();
        CHECK.due("none at first", law.count(0), 0);
        CHECK.due("no thing 0 at first", law.thing(0, 0), -1);
        for (int thing = 0; thing < 7; thing++) {
            CHECK.due("thing " + thing + " comes", Check.tell(law, "t" + KINDS.charAt(thing % 6) + (9 - thing) + "1" + thing % 6 + ";"), 1);
            CHECK.due("as many", law.count(0), thing + 1);
            CHECK.due("its kind", law.thing(thing, 0), thing % 6);
            CHECK.due("its figure", law.thing(thing, 1), 9 - thing);
            CHECK.due("its cell", law.thing(thing, 2), 10 + thing % 6);
            CHECK.due("none behind it", law.thing(thing + 1, 0), -1);
        }
        CHECK.due("an eighth", Check.tell(law, "tt000;"), -2000);
        CHECK.due("still seven", law.count(0), 7);
        CHECK.due("no thing 7", law.thing(7, 0), -1);
        CHECK.due("the first is as it came", law.thing(0, 1), 9);
        for (int many = 1; many <= 7; many += 3) {
            Refusals some = refusals("th105;".repeat(many) + "vh13;");
            some.bounds(0, -1, many - 1, -1, "thing", 0, 0, 0);
            some.bounds(0, -1, many - 1, -1, "drives", 0, 0, 3);
            some.bounds(0, -1, many - 1, -1, "hides", 0, 0);
            some.bounds(0, -1, many - 1, -1, "turn", 0, 0, 1, 1);
            some.bounds(0, -1, many - 1, -1, "thingThen", 0, 0, 5);
            some.bounds(0, -1, many - 1, -1, "sight", 1, 0, 0, 0);
            some.bounds(0, -1, many - 1, -1, "drive", 0, 0, 1);
            some.bounds(0, -1, many - 1, -1, "whereWas", 0, 0, 0, 0);
        }
        Refusals seven = refusals("th105;".repeat(7));
        seven.bounds(0, -1, 6, -1, "two", 0, 0, 3, 0);
        seven.bounds(0, -1, 6, -1, "two", 1, 3, 0, 0);
    }

    private static void figures() {
        CHECK.sentence("KIND, FIGURE (0 .. 9), AT a CELL,");
        LawFromTheTree law = Check.told("tt000;ts915;");
        CHECK.due("figure 0", law.thing(0, 1), 0);
        CHECK.due("figure 9", law.thing(1, 1), 9);
        CHECK.due("cell 0", law.thing(0, 2), 0);
        CHECK.due("cell 15", law.thing(1, 2), 15);
        refusals("tt500;").bounds(0, -4, 9, -6, "turn", 2, 0, 3, 4);
        refusals("tt500;").bounds(0, -2, 5, -2, "turn", 1, 0, 3, 4);
    }

    private static void hidden() {
        CHECK.sentence("HIDDEN or not (not at first).");
        LawFromTheTree law = Check.told("tt100;x0;tt100;");
        CHECK.due("hidden", law.thing(0, 3), 1);
        CHECK.due("not at first, whatever another is", law.thing(1, 3), 0);
        CHECK.due("the bits", law.count(3), 1);
    }

    private static void eyes() {
        CHECK.sentence("EYES of the boy (0 .. 16 CELLS; 16 at first).");
        LawFromTheTree law = new LawFromTheTree();
        CHECK.due("at first", law.count(2), 16);
        CHECK.due("eyes(0)", law.eyes(0), 16);
        CHECK.due("they are 0", law.count(2), 0);
        CHECK.due("eyes(16)", law.eyes(16), 0);
        refusals("e07;").bounds(0, -4, 16, -6, "eyes", 0, 0);
    }

    private static void code() {
        CHECK.sentence("THE CODE: for each KIND of THING a VERDICT (0 nothing, 1 guilty, 2 free; 0 at first) "
            + "and RANK (0 .. 9; 0 at first).");
        LawFromTheTree law = new LawFromTheTree();
        for (int kind = 0; kind <= 5; kind++) {
            CHECK.due("verdict at first of " + kind, law.code(kind, 0), 0);
            CHECK.due("rank at first of " + kind, law.code(kind, 1), 0);
            CHECK.due("decrees(" + kind + ", 2, 9)", law.decrees(kind, 2, 9), 0);
            CHECK.due("verdict of " + kind, law.code(kind, 0), 2);
            CHECK.due("rank of " + kind, law.code(kind, 1), 9);
            CHECK.due("decrees(" + kind + ", 0, 0)", law.decrees(kind, 0, 0), 29);
        }
        refusals("vt15;").bounds(0, -2, 5, -2, "decrees", 0, 0, 1, 1);
        refusals("vt15;").bounds(0, -2, 2, -2, "decrees", 1, 0, 1, 1);
        refusals("vt15;").bounds(0, -4, 9, -6, "decrees", 2, 0, 1, 1);
        refusals("vt15;").bounds(0, -2, 5, -2, "code", 0, 0, 0);
    }

    private static void hour() {
        CHECK.sentence("HOUR (0 .. 999; 0 at first).");
        LawFromTheTree law = new LawFromTheTree();
        CHECK.due("at first", law.count(1), 0);
        for (int i = 1; i <= 16; i++) {
            CHECK.due("60 more", law.hours(60), 60 * i);
        }
        CHECK.due("40 more are too many", law.hours(40), -6);
        CHECK.due("39 more", law.hours(39), 999);
        CHECK.due("none is left", law.hours(1), -6);
        CHECK.due("nor in a land", Check.tell(law, "h01;"), -2000);
        CHECK.due("the last hour", law.count(1), 999);
    }

    private static void round() {
        CHECK.sentence("KINDS of THINGS, how many CELLS one goes in an HOUR (on, round from 15 to 0), "
            + "how high it is above its CELL:");
        LawFromTheTree law = Check.told("th015;tb014;tb015;tc015;th014;");
        law.hours(2);
        int[] cells = {1, 2, 3, 0, 0};
        for (int thing = 0; thing < cells.length; thing++) {
            CHECK.due("cell of " + thing, law.thing(thing, 2), cells[thing]);
        }
        LawFromTheTree long60 = Check.told("th000;tb000;");
        for (int n = 0; n <= 60; n++) {
            CHECK.due("a horse behind " + n, long60.thingThen(0, n), n % 16);
            CHECK.due("a bird behind " + n, long60.thingThen(1, n), 2 * n % 16);
        }
    }

    /** A kind with a figure at cell 3 (height 2), its steps into the hours told and its tops in them. */
    private static void kind(char kind, int figure, int hour, int steps, int high) {
        LawFromTheTree law = Check.told("c032;c042;t" + kind + figure + "03;");
        if (hour > 0) {
            law.hours(hour);
        }
        law.drives(0, 3);
        String call = kind + " of " + figure + " at " + hour;
        CHECK.due(call + ": top", law.thing(0, 4), 2 + high);
        CHECK.due(call + ": goes in the next hour", law.thing(0, 5), steps);
        CHECK.due(call + ": is then", law.thingThen(0, 1), 3 + steps);
        law.hours(1);
        CHECK.due(call + ": went", law.thing(0, 2), 3 + steps);
    }

    private static void tree() {
        CHECK.sentence("t TREE: 0; FIGURE.");
        for (int figure = 0; figure <= 9; figure++) {
            kind('t', figure, 0, 0, figure);
            kind('t', figure, 1, 0, figure);
        }
    }

    private static void smoke() {
        CHECK.sentence("s SMOKE under TREE: 0; FIGURE, and 1 more in odd HOURS.");
        for (int figure = 0; figure <= 9; figure++) {
            kind('s', figure, 0, 0, figure);
            kind('s', figure, 1, 0, figure + 1);
            kind('s', figure, 2, 0, figure);
        }
    }

    private static void horse() {
        CHECK.sentence("h HORSE under TREE: 1; 1.");
        for (int figure = 0; figure <= 9; figure += 9) {
            kind('h', figure, 0, 1, 1);
            kind('h', figure, 1, 1, 1);
        }
    }

    private static void cow() {
        CHECK.sentence("c COW under HORSE: 1, if 2 more than FIGURE divides HOUR, else 0; as a HORSE.");
        for (int figure = 0; figure <= 9; figure++) {
            kind('c', figure, figure, 0, 1);
            kind('c', figure, figure + 1, 1, 1);
            kind('c', figure, figure + 2, 0, 1);
            kind('c', figure, 2 * figure + 3, 1, 1);
        }
        // 999 is 9 times 111, and 1000, which comes in mind alone, 10 times 100.
        LawFromTheTree last = Check.toldAtTheLastHour("tc700;tc800;");
        CHECK.due("of 7 into 1000", last.thing(0, 5), 0);
        CHECK.due("of 8 into 1000", last.thing(1, 5), 1);
    }

    private static void bird() {
        CHECK.sentence("b BIRD under HORSE: twice; 5 more.");
        for (int figure = 0; figure <= 9; figure += 9) {
            kind('b', figure, 0, 2, 6);
            kind('b', figure, 1, 2, 6);
        }
    }

    private static void washing() {
        CHECK.sentence("w WASHING under COW: 0; 2, if HOUR is even, else 0.");
        for (int figure = 0; figure <= 9; figure += 9) {
            kind('w', figure, 0, 0, 2);
            kind('w', figure, 1, 0, 0);
            kind('w', figure, 2, 0, 2);
        }
        LawFromTheTree last = Check.toldAtTheLastHour("tw000;");
        CHECK.due("at 999", last.thing(0, 4), 0);
        CHECK.due("seen at 1000, in mind", last.seenThen(0, 1, 0), 1);
    }

    private static void asAboveThem() {
        CHECK.sentence("Where it is not told as above them (HOUR as it is).");
        // A cow is as high as the horse above it, and smoke stands as the tree above it.
        LawFromTheTree law = Check.told("c044;th904;tc904;tt904;ts904;");
        CHECK.due("a cow is as high as a horse", law.thing(1, 4), law.thing(0, 4));
        law.hours(1);
        CHECK.due("a cow's height at an odd hour", law.thing(1, 4), 5);
        CHECK.due("a tree stood", law.thing(2, 2), 4);
        CHECK.due("smoke stood", law.thing(3, 2), 4);
    }

    private static void seenNotHidden() {
        CHECK.sentence("SEEN from a BRANCH: a THING, not HIDDEN,");
        LawFromTheTree law = Check.told("tt100;".repeat(7));
        for (int thing = 0; thing < 7; thing++) {
            CHECK.due("hides(" + thing + ")", law.hides(thing), 1);
            CHECK.due("seen without it", law.seen(0, 0), 0b1111111 & ~(1 << thing));
            CHECK.due("hides(" + thing + ") again", law.hides(thing), 0);
            CHECK.due("seen with it", law.seen(0, 0), 0b1111111);
        }
    }

    private static void seenNoFarther() {
        CHECK.sentence("no farther than EYES (CELL 0 is 1 far),");
        LawFromTheTree law = Check.told("tt100;");
        for (int cell = 0; cell <= 15; cell++) {
            law.drives(0, cell);
            law.eyes(cell);
            CHECK.due("cell " + cell + " with eyes of " + cell, law.seen(5, 0), 0);
            law.eyes(cell + 1);
            CHECK.due("cell " + cell + " with eyes of " + (cell + 1), law.seen(5, 0), 1);
        }
    }

    private static void seenAboveNothing() {
        CHECK.sentence("whose TOP (HEIGHT of its CELL and how high it is) is above 0,");
        LawFromTheTree law = Check.told("tt000;ts000;tw000;");
        CHECK.due("trees and smoke of 0", law.seen(9, 0), 0b100);
        law.hours(1);
        CHECK.due("smoke of 1, washing of 0", law.seen(9, 0), 0b010);
        law.turn(0, 0, 1);
        CHECK.due("a tree of 1", law.seen(9, 0), 0b011);
        law.turn(0, 0, 0);
        law.heaps(0, 1);
        CHECK.due("all on a cell of 1", law.seen(9, 0), 0b111);
        CHECK.due("top of the tree", law.thing(0, 4), 1);
        CHECK.due("top of the smoke", law.thing(1, 4), 2);
    }

    private static void seenOverCells() {
        CHECK.sentence("if no CELL of a lesser number is as high as BRANCH or higher and as high as TOP or higher.");
        LawFromTheTree law = new LawFromTheTree();
        int calls = 512;
        for (int height = 0; height <= 9; height++) {
            for (int top = 1; top <= 9; top++) {
                for (int branch = 0; branch <= 9; branch++) {
                    if (calls > 500) {
                        law = Check.told("tt105;");
                        calls = 7;
                    }
                    law.heaps(4, height);
                    law.turn(0, 0, top);
                    calls += 3;
                    boolean hidden = height >= branch && height >= top;
                    CHECK.due("cell of " + height + ", top " + top + ", branch " + branch, law.seen(branch, 0), hidden ? 0 : 1);
                }
            }
        }
        everyCellOfALesserNumber();
    }

    private static void everyCellOfALesserNumber() {
        for (int at = 0; at <= 15; at += 5) {
            LawFromTheTree law = Check.told("tt100;");
            law.drives(0, at);
            for (int cell = 0; cell <= 15; cell++) {
                law.heaps(cell, 9);
                CHECK.due("at " + at + ", a hill at " + cell, law.seen(9, 0), cell < at ? 0 : 1);
                law.heaps(cell, 0);
            }
        }
        // The greatest top, 9 and 10, is above every cell.
        LawFromTheTree top = Check.told("c009;c159;ts915;");
        top.hours(1);
        CHECK.due("top 19 over 9", top.seen(0, 0), 1);
    }

    private static void verdict() {
        CHECK.sentence("VERDICT from a BRANCH: of THINGS SEEN whose KIND has a VERDICT of 1 or 2 that of greatest RANK, "
            + "of several the least THING; 0 none.");
        LawFromTheTree law = Check.told("tt100;ts100;th000;");
        CHECK.due("no kind has one", law.seen(0, 1), 0);
        law.decrees(0, 0, 9);
        CHECK.due("a rank without a verdict", law.seen(0, 1), 0);
        CHECK.due("nobody decides", law.seen(0, 2), -9);
        law.decrees(2, 2, 0);
        CHECK.due("rank 0 with a verdict", law.seen(0, 1), 2);
        law.decrees(1, 1, 0);
        CHECK.due("of one rank the least thing", law.seen(0, 2), 1);
        law.decrees(2, 2, 1);
        CHECK.due("rank 1 above rank 0", law.seen(0, 2), 2);
        law.decrees(1, 1, 8);
        law.decrees(2, 2, 9);
        CHECK.due("rank 9 above rank 8", law.seen(0, 1), 2);
        law.decrees(1, 1, 9);
        CHECK.due("both of rank 9", law.seen(0, 1), 1);
        law.eyes(0);
        CHECK.due("none is seen", law.seen(0, 1), 0);
        CHECK.due("no things", new LawFromTheTree().seen(0, 1), 0);
    }

    private static void anHour() {
        CHECK.sentence("An HOUR: HOUR is 1 more, then THINGS by numbers go (by HOUR as it is then).");
        // A cow of 0 goes into even hours: not in the first, but in the second.
        LawFromTheTree law = Check.told("tc000;th000;");
        CHECK.due("hour 1", law.hours(1), 1);
        CHECK.due("the cow stood", law.thing(0, 2), 0);
        CHECK.due("the horse went", law.thing(1, 2), 1);
        CHECK.due("hour 2", law.hours(1), 2);
        CHECK.due("the cow went", law.thing(0, 2), 1);
        LawFromTheTree late = Check.told("h60;".repeat(16), "tc700;h39;");
        CHECK.due("the last hour is 999, 9 times 111", late.thing(0, 2), 999 / 9 - 960 / 9);
    }
}
