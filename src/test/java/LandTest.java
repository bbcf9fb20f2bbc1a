/** Promises 1 to 13: a new object, letters, lands, and what changes a land by hand. */
public final class LandTest {
    private static final Check CHECK = new Check("LandTest");

    public static void main(String[] args) {
        newObject();
        letters();
        lands();
        landsWithFaultsOfKindOne();
        landsWithFaultsOfKindTwo();
        faultsChangeNothing();
        hoursInLands();
        things();
        heightsAndCode();
        heaps();
        drivesAndHides();
        decreesAndEyes();
        turn();
        hours();
        CHECK.end();
    }

    private static void newObject() {
        LawFromTheTree law = new LawFromTheTree();
        for (int cell = 0; cell < 16; cell++) {
            CHECK.due("new: height(" + cell + ")", law.height(cell), 0);
        }
        for (int kind = 0; kind < 6; kind++) {
            CHECK.due("new: code(" + kind + ", 0)", law.code(kind, 0), 0);
            CHECK.due("new: code(" + kind + ", 1)", law.code(kind, 1), 0);
        }
        int[] counts = {0, 0, 16, 0, 0, 0, 0, 0};
        for (int what = 0; what < counts.length; what++) {
            CHECK.due("new: count(" + what + ")", law.count(what), counts[what]);
        }
        for (int what = 11; what <= 16; what++) {
            CHECK.due("new: count(" + what + ")", law.count(what), 0);
        }
        CHECK.due("new: on()", law.on(), -3);
    }

    private static void letters() {
        LawFromTheTree law = new LawFromTheTree();
        CHECK.due("letter(0)", law.letter(0), 1);
        CHECK.due("letter(255)", law.letter(255), 2);
        CHECK.due("letter(-1)", law.letter(-1), -4);
        CHECK.due("letter(256)", law.letter(256), -6);
        CHECK.due("count(7)", law.count(7), 2);
        for (int i = 3; i <= 96; i++) {
            CHECK.due("letter " + i, law.letter('c'), i);
        }
        CHECK.due("letter 97", law.letter('c'), -6);
        CHECK.due("letter 97 below", law.letter(-1), -4);
        CHECK.due("count(7) full", law.count(7), 96);
        CHECK.due("land of misfits", law.land(), -1000);
        CHECK.due("count(7) behind land", law.count(7), 0);
        CHECK.due("letter behind land", law.letter('c'), 1);
    }

    private static void lands() {
        LawFromTheTree law = new LawFromTheTree();
        CHECK.due("all statements", Check.tell(law, "c037;ts412;vb29;e09;x0;d015;h60;"), 7);
        CHECK.due("height(3)", law.height(3), 7);
        CHECK.due("kind", law.thing(0, 0), 1);
        CHECK.due("figure", law.thing(0, 1), 4);
        CHECK.due("cell", law.thing(0, 2), 15);
        CHECK.due("hidden", law.thing(0, 3), 1);
        CHECK.due("verdict", law.code(4, 0), 2);
        CHECK.due("rank", law.code(4, 1), 9);
        CHECK.due("eyes", law.count(2), 9);
        CHECK.due("hour", law.count(1), 60);
        CHECK.due("told again", Check.tell(law, "x0;c030;"), 2);
        CHECK.due("not hidden", law.thing(0, 3), 0);
        CHECK.due("height(3) again", law.height(3), 0);
        CHECK.due("hidden and not in one", Check.tell(law, "x0;x0;"), 2);
        CHECK.due("not hidden again", law.thing(0, 3), 0);
        CHECK.due("edges", Check.tell(law, "c159;c000;e00;e16;h01;d000;vw00;tw915;"), 8);
        CHECK.due("a second thing", law.count(0), 2);
        CHECK.due("96 letters, nobody to hide", Check.tell(new LawFromTheTree(), "x0;".repeat(32)), -2000);
        CHECK.due("96 letters, 24 statements", Check.tell(new LawFromTheTree(), "e16;".repeat(24)), 24);
        String kinds = "tshcbw";
        for (int kind = 0; kind < kinds.length(); kind++) {
            LawFromTheTree one = Check.told("t" + kinds.charAt(kind) + "300;v" + kinds.charAt(kind) + "17;");
            CHECK.due("kind " + kinds.charAt(kind), one.thing(0, 0), kind);
            CHECK.due("rank of " + kinds.charAt(kind), one.code(kind, 1), 7);
        }
    }

    private static void landsWithFaultsOfKindOne() {
        fault("", -1000);
        fault(";", -1000);
        fault("z", -1000);
        fault("C003;", -1000);
        fault("c", -1001);
        fault("c003", -1004);
        fault("c0033", -1004);
        fault("c003;;", -1005);
        fault("c003; ", -1005);
        fault("c003;t", -1006);
        fault("c0:3;", -1002);
        fault("c0/3;", -1002);
        fault("tx000;", -1001);
        fault("t0", -1001);
        fault("tt0;", -1003);
        fault("vt1;", -1003);
        fault("vt123;", -1004);
        fault("e;", -1001);
        fault("e123;", -1003);
        fault("x01;", -1002);
        fault("d01;", -1003);
        fault("h1;", -1002);
        // A fault of kind 1 goes before one of kind 2, wherever each is.
        fault("c990;c", -1006);
        fault("x0;h00;?", -1007);
        fault("e16;".repeat(23) + "e166", -1095);
        fault("x0".repeat(48), -1002);
        fault("e16;".repeat(23) + "tt00", -1096);
    }

    private static void landsWithFaultsOfKindTwo() {
        fault("c160;", -2000);
        fault("c159;c160;c990;", -2005);
        fault("tt016;", -2000);
        fault("vt30;", -2000);
        fault("vt29;vt90;", -2005);
        fault("e17;", -2000);
        fault("e16;e99;", -2004);
        fault("x0;", -2000);
        fault("x0;tt000;", -2000);
        fault("tt000;x1;", -2006);
        fault("tt000;x0;x9;", -2009);
        fault("d000;", -2000);
        fault("tt000;d015;d016;", -2011);
        fault("tt000;d100;", -2006);
        fault("h00;", -2000);
        fault("h60;h61;", -2004);
        fault("h60;".repeat(16) + "h39;h01;", -2068);
        fault("h60;".repeat(16) + "h40;", -2064);
        fault("tt000;".repeat(8), -2042);
        fault("tt000;".repeat(7) + "x6;x7;", -2045);
    }

    private static void fault(String text, int want) {
        LawFromTheTree law = new LawFromTheTree();
        CHECK.due("land of \"" + text + "\"", Check.tell(law, text), want);
        CHECK.due("letters behind \"" + text + "\"", law.count(7), 0);
        for (int what = 11; what <= 16; what++) {
            CHECK.due("refusals behind \"" + text + "\"", law.count(what), 0);
        }
    }

    private static void faultsChangeNothing() {
        LawFromTheTree law = Check.told("c034;th105;vh13;e10;x0;h02;");
        CHECK.due("all, then a fault", Check.tell(law, "c055;ts000;vs25;e03;x0;d000;h05;x7;"), -2032);
        CHECK.due("height(5)", law.height(5), 0);
        CHECK.due("things", law.count(0), 1);
        CHECK.due("code", law.code(1, 0), 0);
        CHECK.due("eyes", law.count(2), 10);
        CHECK.due("hidden", law.count(3), 1);
        CHECK.due("cell", law.thing(0, 2), 7);
        CHECK.due("hour", law.count(1), 2);
        LawFromTheTree full = Check.told("tt000;".repeat(6));
        CHECK.due("no room for two more", Check.tell(full, "tt000;tt000;"), -2006);
        CHECK.due("none came", full.count(0), 6);
        CHECK.due("room for one", Check.tell(full, "tt000;"), 1);
        CHECK.due("no room", Check.tell(full, "tt000;"), -2000);
    }

    private static void hoursInLands() {
        LawFromTheTree law = Check.told("th000;h03;th000;h02;d100;h01;");
        CHECK.due("the first went 6", law.thing(0, 2), 6);
        CHECK.due("the second was driven back", law.thing(1, 2), 1);
        CHECK.due("hour", law.count(1), 6);
        LawFromTheTree late = Check.told("h60;".repeat(16));
        CHECK.due("39 more", Check.tell(late, "h39;"), 1);
        CHECK.due("hour 999", late.count(1), 999);
        CHECK.due("one more", Check.tell(late, "h01;"), -2000);
    }

    private static void things() {
        LawFromTheTree law = Check.told("c052;tt405;ts405;th405;tc405;tb405;tw405;");
        int[] tops = {6, 6, 3, 3, 8, 4};
        int[] steps = {0, 0, 1, 0, 2, 0};
        for (int thing = 0; thing < 6; thing++) {
            CHECK.due("kind of " + thing, law.thing(thing, 0), thing);
            CHECK.due("figure of " + thing, law.thing(thing, 1), 4);
            CHECK.due("cell of " + thing, law.thing(thing, 2), 5);
            CHECK.due("hidden " + thing, law.thing(thing, 3), 0);
            CHECK.due("top of " + thing, law.thing(thing, 4), tops[thing]);
            CHECK.due("steps of " + thing, law.thing(thing, 5), steps[thing]);
        }
        law.hours(5);
        int[] cells = {5, 5, 10, 5, 15, 5};
        int[] oddTops = {6, 7, 1, 3, 6, 2};
        int[] stepsToSix = {0, 0, 1, 1, 2, 0};
        for (int thing = 0; thing < 6; thing++) {
            CHECK.due("cell then of " + thing, law.thing(thing, 2), cells[thing]);
            CHECK.due("odd top of " + thing, law.thing(thing, 4), oddTops[thing]);
            CHECK.due("steps to 6 of " + thing, law.thing(thing, 5), stepsToSix[thing]);
        }
        law.hours(1);
        CHECK.due("the cow went at 6", law.thing(3, 2), 6);
        CHECK.due("the bird went round", law.thing(4, 2), 1);
        law.turn(3, 3, 0);
        law.hours(10);
        CHECK.due("the cow of 0 went 5 in 10", law.thing(3, 2), 11);
        law.turn(3, 3, 9);
        law.hours(17);
        CHECK.due("the cow of 9 went by 22 and 33", law.thing(3, 2), 13);
        CHECK.due("a thing below", law.thing(-1, 0), -1);
        CHECK.due("no such thing", law.thing(6, 0), -1);
        CHECK.due("no such thing, nor what", law.thing(6, 6), -1);
        CHECK.due("what 6", law.thing(0, 6), -2);
        CHECK.due("what -1", law.thing(0, -1), -2);
        LawFromTheTree last = Check.told("tc000;" + "h60;".repeat(16), "h39;");
        CHECK.due("the hour behind the last", last.thing(0, 5), 1);
    }

    private static void heightsAndCode() {
        LawFromTheTree law = Check.told("c008;c159;vt14;vw25;");
        CHECK.due("height(0)", law.height(0), 8);
        CHECK.due("height(15)", law.height(15), 9);
        CHECK.due("height(-1)", law.height(-1), -1);
        CHECK.due("height(16)", law.height(16), -1);
        CHECK.due("code(0, 0)", law.code(0, 0), 1);
        CHECK.due("code(0, 1)", law.code(0, 1), 4);
        CHECK.due("code(5, 0)", law.code(5, 0), 2);
        CHECK.due("code(5, 1)", law.code(5, 1), 5);
        CHECK.due("code(-1, 0)", law.code(-1, 0), -2);
        CHECK.due("code(6, 0)", law.code(6, 0), -2);
        CHECK.due("code(0, 2)", law.code(0, 2), -2);
        CHECK.due("code(0, -1)", law.code(0, -1), -2);
    }

    private static void heaps() {
        LawFromTheTree law = new LawFromTheTree();
        CHECK.due("heaps(15, 9)", law.heaps(15, 9), 0);
        CHECK.due("heaps(15, 0)", law.heaps(15, 0), 9);
        CHECK.due("heaps(0, 4)", law.heaps(0, 4), 0);
        CHECK.due("heaps(-1, 10)", law.heaps(-1, 10), -1);
        CHECK.due("heaps(16, -1)", law.heaps(16, -1), -1);
        CHECK.due("heaps(0, -1)", law.heaps(0, -1), -4);
        CHECK.due("heaps(0, 10)", law.heaps(0, 10), -6);
        CHECK.due("height(0)", law.height(0), 4);
        CHECK.due("blind behind 4", law.seen(4, 4), 0xfffe);
        CHECK.due("not blind from 5", law.seen(5, 4), 0);
        CHECK.due("heaps(0, 0)", law.heaps(0, 0), 4);
        CHECK.due("not blind behind 0", law.seen(0, 4), 0);
    }

    private static void drivesAndHides() {
        LawFromTheTree law = Check.told("tt103;th107;");
        CHECK.due("drives(0, 15)", law.drives(0, 15), 3);
        CHECK.due("drives(0, 0)", law.drives(0, 0), 15);
        CHECK.due("cell of 1", law.thing(1, 2), 7);
        CHECK.due("drives(2, 0)", law.drives(2, 0), -1);
        CHECK.due("drives(-1, 0)", law.drives(-1, 0), -1);
        CHECK.due("drives(0, 16)", law.drives(0, 16), -1);
        CHECK.due("drives(0, -1)", law.drives(0, -1), -1);
        CHECK.due("hides(1)", law.hides(1), 1);
        CHECK.due("hidden", law.count(3), 2);
        CHECK.due("hides(0)", law.hides(0), 1);
        CHECK.due("hides(1) again", law.hides(1), 0);
        CHECK.due("hidden", law.count(3), 1);
        CHECK.due("hides(2)", law.hides(2), -1);
        CHECK.due("hides(-1)", law.hides(-1), -1);
        CHECK.due("hides(32)", law.hides(32), -1);
    }

    private static void decreesAndEyes() {
        LawFromTheTree law = new LawFromTheTree();
        CHECK.due("decrees(5, 2, 9)", law.decrees(5, 2, 9), 0);
        CHECK.due("decrees(5, 1, 3)", law.decrees(5, 1, 3), 29);
        CHECK.due("decrees(5, 0, 0)", law.decrees(5, 0, 0), 13);
        CHECK.due("decrees(6, 0, -1)", law.decrees(6, 0, -1), -2);
        CHECK.due("decrees(-1, 0, 0)", law.decrees(-1, 0, 0), -2);
        CHECK.due("decrees(0, 3, 10)", law.decrees(0, 3, 10), -2);
        CHECK.due("decrees(0, -1, 0)", law.decrees(0, -1, 0), -2);
        CHECK.due("decrees(0, 0, -1)", law.decrees(0, 0, -1), -4);
        CHECK.due("decrees(0, 0, 10)", law.decrees(0, 0, 10), -6);
        CHECK.due("eyes(0)", law.eyes(0), 16);
        CHECK.due("eyes(16)", law.eyes(16), 0);
        CHECK.due("eyes(-1)", law.eyes(-1), -4);
        CHECK.due("eyes(17)", law.eyes(17), -6);
        CHECK.due("eyes are", law.count(2), 16);
    }

    private static void turn() {
        LawFromTheTree law = Check.told("tb705;tt000;");
        CHECK.due("turn(0, 5, 0)", law.turn(0, 5, 0), 47);
        CHECK.due("turn(0, 0, 9)", law.turn(0, 0, 9), 50);
        CHECK.due("kind", law.thing(0, 0), 0);
        CHECK.due("figure", law.thing(0, 1), 9);
        CHECK.due("turn(2, 6, -1)", law.turn(2, 6, -1), -1);
        CHECK.due("turn(-1, 0, 0)", law.turn(-1, 0, 0), -1);
        CHECK.due("turn(0, 6, -1)", law.turn(0, 6, -1), -2);
        CHECK.due("turn(0, -1, 10)", law.turn(0, -1, 10), -2);
        CHECK.due("turn(0, 0, -1)", law.turn(0, 0, -1), -4);
        CHECK.due("turn(0, 0, 10)", law.turn(0, 0, 10), -6);
        CHECK.due("turn(1, 2, 2)", law.turn(1, 2, 2), 0);
        CHECK.due("figure of 0", law.thing(0, 1), 9);
    }

    private static void hours() {
        LawFromTheTree law = Check.told("th000;tb015;");
        CHECK.due("hours(1)", law.hours(1), 1);
        CHECK.due("hours(60)", law.hours(60), 61);
        CHECK.due("the horse", law.thing(0, 2), 61 % 16);
        CHECK.due("the bird", law.thing(1, 2), (15 + 122) % 16);
        CHECK.due("hours(0)", law.hours(0), -4);
        CHECK.due("hours(61)", law.hours(61), -6);
        CHECK.due("hours(least)", law.hours(Integer.MIN_VALUE), -4);
        CHECK.due("hours(greatest)", law.hours(Integer.MAX_VALUE), -6);
        for (int i = 0; i < 15; i++) {
            law.hours(60);
        }
        CHECK.due("hours(39) from 961", law.hours(39), -6);
        CHECK.due("hours(38) from 961", law.hours(38), 999);
        CHECK.due("hours(1) from 999", law.hours(1), -6);
        CHECK.due("hour", law.count(1), 999);
    }
}
