/** The edges of a land told in letters: promises 1 to 3, and the passage "A LAND is told in letters". */
public final class LandEdgesTest {
    private static final Check CHECK = new Check("LandEdgesTest");
    private static final String[] SAMPLES = {"c159;", "tt015;", "vb29;", "e16;", "x0;", "d015;", "h60;"};

    public static void main(String[] args) {
        newObject();
        letter();
        ninetySixLetters();
        land();
        semicolons();
        cells();
        things();
        code();
        eyes();
        hidden();
        driven();
        hours();
        atLeastOne();
        kindOne();
        theEnd();
        kindTwo();
        outOfRange();
        noSuchThingSoFar();
        hourAbove();
        noRoom();
        allOrNothing();
        CHECK.end();
    }

    private static void told(String text, int want) {
        CHECK.due("land of \"" + text + "\"", Check.tell(new LawFromTheTree(), text), want);
    }

    /** As told, of an object that has one thing, 0. */
    private static void toldToOne(String text, int want) {
        CHECK.due("with a thing, land of \"" + text + "\"", Check.tell(Check.told("tt000;"), text), want);
    }

    private static void newObject() {
        CHECK.sentence("`LawFromTheTree()`: All HEIGHTS 0, no THINGS, EYES 16, HOUR 0.");
        LawFromTheTree law = new LawFromTheTree();
        for (int cell = 0; cell <= 15; cell++) {
            CHECK.due("height(" + cell + ")", law.height(cell), 0);
        }
        int[] counts = {0, 0, 16, 0, 0, 0, 0, 0};
        for (int what = 0; what < counts.length; what++) {
            CHECK.due("count(" + what + ")", law.count(what), counts[what]);
        }
        for (int what = 11; what <= 16; what++) {
            CHECK.due("count(" + what + ")", law.count(what), 0);
        }
        CHECK.due("no thing", law.thing(0, 0), -1);
        CHECK.due("no image", law.on(), -3);
        // What one object is told another does not know of.
        Check.told("c159;tt000;e00;h60;").image();
        CHECK.due("no other's things", new LawFromTheTree().count(0), 0);
        CHECK.due("no other's image", new LawFromTheTree().on(), -3);
    }

    private static void letter() {
        CHECK.sentence("`int letter(int c)`: A letter (0 .. 255) comes: how many there are. -4; -6 (255; 96, too).");
        Refusals none = new Refusals(CHECK, LawFromTheTree::new);
        none.bounds(0, -4, 255, -6, "letter", 0, 0);
        Refusals last = new Refusals(CHECK, () -> withLetters(95));
        last.bounds(0, -4, 255, -6, "letter", 0, 0);
        Refusals full = new Refusals(CHECK, () -> withLetters(96));
        for (int c : new int[] {0, ';', 'c', 255, 256, Integer.MAX_VALUE}) {
            full.refused(-6, "letter", c);
        }
        // Below goes before no room.
        full.refused(-4, "letter", -1);
        full.refused(-4, "letter", Integer.MIN_VALUE);
    }

    private static LawFromTheTree withLetters(int many) {
        LawFromTheTree law = new LawFromTheTree();
        for (int i = 0; i < many; i++) {
            law.letter("e16;".charAt(i % 4));
        }
        return law;
    }

    private static void ninetySixLetters() {
        CHECK.sentence("A LAND is told in letters, one by one (96 at most):");
        LawFromTheTree law = new LawFromTheTree();
        for (int i = 0; i < 96; i++) {
            CHECK.due("letter " + (i + 1), law.letter("e07;".charAt(i % 4)), i + 1);
        }
        CHECK.due("one too many", law.letter('e'), -6);
        CHECK.due("96 there are", law.count(7), 96);
        CHECK.due("the land of 96", law.land(), 24);
        CHECK.due("eyes", law.count(2), 7);
        CHECK.due("then there is room again", law.letter('e'), 1);
        told("tt000;".repeat(7) + "vt15;".repeat(10) + "e16;", 18);
    }

    private static void land() {
        CHECK.sentence("`int land()`: The letters become a LAND, and are no more (with a FAULT neither): "
            + "how many STATEMENTS; the FAULT (nothing is counted).");
        for (String text : new String[] {"", "e07;", "e07", "?", "e17;", "x0;", "e16;".repeat(24), "e".repeat(96)}) {
            LawFromTheTree law = new LawFromTheTree();
            Check.tell(law, text);
            CHECK.due("letters behind \"" + text + "\"", law.count(7), 0);
            CHECK.due("then the land of none", law.land(), -1000);
            CHECK.due("then a new land", Check.tell(law, "e05;e06;"), 2);
            CHECK.due("which came", law.count(2), 6);
            for (int what = 11; what <= 16; what++) {
                CHECK.due("nothing is counted: count(" + what + ")", law.count(what), 0);
            }
        }
        for (int many = 1; many <= 24; many++) {
            told("e16;".repeat(many), many);
        }
    }

    private static void semicolons() {
        CHECK.sentence("STATEMENTS, each with \";\" behind:");
        for (String sample : SAMPLES) {
            String bare = sample.substring(0, sample.length() - 1);
            toldToOne(sample, 1);
            toldToOne(sample + sample, 2);
            toldToOne(bare, -1000 - bare.length());
            toldToOne(bare + bare, -1000 - bare.length());
            toldToOne(bare + ":", -1000 - bare.length());
            toldToOne(bare + "0;", -1000 - bare.length());
            toldToOne(sample + ";", -1000 - sample.length());
        }
    }

    private static void cells() {
        CHECK.sentence("\"c\" a CELL (2 digits), HEIGHT (a digit);");
        told("c000;", 1);
        told("c009;", 1);
        told("c150;", 1);
        told("c159;", 1);
        told("c160;", -2000);
        told("c169;", -2000);
        told("c990;", -2000);
        told("c00;", -1003);
        told("c0000;", -1004);
        LawFromTheTree law = Check.told("c009;c158;c107;");
        CHECK.due("height(0)", law.height(0), 9);
        CHECK.due("height(15)", law.height(15), 8);
        CHECK.due("height(10)", law.height(10), 7);
        CHECK.due("height(1)", law.height(1), 0);
    }

    private static void things() {
        CHECK.sentence("\"t\" a letter of a KIND, FIGURE (a digit), a CELL (2 digits): a THING more;");
        for (char kind : "tshcbw".toCharArray()) {
            told("t" + kind + "000;", 1);
            told("t" + kind + "915;", 1);
            told("t" + kind + "016;", -2000);
            told("t" + kind + "099;", -2000);
            told("t" + kind + "00;", -1004);
            told("t" + kind + "0000;", -1005);
        }
        for (int c = 0; c <= 255; c++) {
            if ("tshcbw".indexOf(c) < 0) {
                LawFromTheTree law = new LawFromTheTree();
                law.letter('t');
                law.letter(c);
                CHECK.due("no kind " + c, law.land(), -1001);
            }
        }
    }

    private static void code() {
        CHECK.sentence("\"v\" a letter of a KIND, a VERDICT, a RANK (a digit each);");
        for (char kind : "tshcbw".toCharArray()) {
            told("v" + kind + "00;", 1);
            told("v" + kind + "29;", 1);
            told("v" + kind + "30;", -2000);
            told("v" + kind + "99;", -2000);
            told("v" + kind + "0;", -1003);
            told("v" + kind + "000;", -1004);
        }
        told("va00;", -1001);
        told("v000;", -1001);
        LawFromTheTree law = Check.told("vt29;vt10;vw01;");
        CHECK.due("told again", law.code(0, 0), 1);
        CHECK.due("its rank", law.code(0, 1), 0);
        CHECK.due("a rank alone", law.code(5, 1), 1);
    }

    private static void eyes() {
        CHECK.sentence("\"e\" EYES (2 digits);");
        told("e00;", 1);
        told("e16;", 1);
        told("e17;", -2000);
        told("e99;", -2000);
        told("e0;", -1002);
        told("e000;", -1003);
        CHECK.due("eyes of 0", Check.told("e00;").count(2), 0);
        CHECK.due("eyes of 16", Check.told("e00;e16;").count(2), 16);
        CHECK.due("eyes of 1", Check.told("e01;").count(2), 1);
        CHECK.due("eyes of 10", Check.told("e10;").count(2), 10);
    }

    private static void hidden() {
        CHECK.sentence("\"x\" a THING (a digit): HIDDEN, or, told again, not;");
        toldToOne("x0;", 1);
        toldToOne("x1;", -2000);
        toldToOne("x9;", -2000);
        toldToOne("x;", -1001);
        toldToOne("x00;", -1002);
        LawFromTheTree law = Check.told("tt000;".repeat(7));
        CHECK.due("the last", Check.tell(law, "x6;"), 1);
        CHECK.due("hidden", law.count(3), 64);
        CHECK.due("one behind the last", Check.tell(law, "x7;"), -2000);
        CHECK.due("told again", Check.tell(law, "x6;"), 1);
        CHECK.due("not hidden", law.count(3), 0);
        CHECK.due("told three times", Check.tell(law, "x0;x0;x0;"), 3);
        CHECK.due("hidden again", law.count(3), 1);
        law.hides(0);
        CHECK.due("told behind hides", Check.tell(law, "x0;"), 1);
        CHECK.due("hidden", law.count(3), 1);
    }

    private static void driven() {
        CHECK.sentence("\"d\" a THING (a digit), a CELL (2 digits): it is driven there;");
        toldToOne("d000;", 1);
        toldToOne("d015;", 1);
        toldToOne("d016;", -2000);
        toldToOne("d099;", -2000);
        toldToOne("d100;", -2000);
        toldToOne("d999;", -2000);
        toldToOne("d00;", -1003);
        toldToOne("d0000;", -1004);
        LawFromTheTree law = Check.told("tt000;".repeat(7) + "d615;");
        CHECK.due("the last was driven", law.thing(6, 2), 15);
        CHECK.due("the one ahead was not", law.thing(5, 2), 0);
        CHECK.due("none behind the last", Check.tell(law, "d700;"), -2000);
    }

    private static void hours() {
        CHECK.sentence("\"h\" HOURS (2 digits, 1 .. 60): they go by.");
        told("h00;", -2000);
        told("h01;", 1);
        told("h60;", 1);
        told("h61;", -2000);
        told("h99;", -2000);
        told("h1;", -1002);
        told("h001;", -1003);
        LawFromTheTree law = Check.told("th015;h01;");
        CHECK.due("one hour, round", law.thing(0, 2), 0);
        CHECK.due("the hour", law.count(1), 1);
        CHECK.due("60 more", Check.tell(law, "h60;"), 1);
        CHECK.due("60 hours", law.thing(0, 2), 60 % 16);
        CHECK.due("a horse that comes later went less", Check.told("th000;h02;th000;h03;").thing(1, 2), 3);
    }

    private static void atLeastOne() {
        CHECK.sentence("At least one STATEMENT.");
        CHECK.due("no letters at all", new LawFromTheTree().land(), -1000);
        LawFromTheTree law = Check.told("c034;tt000;");
        CHECK.due("none left", law.land(), -1000);
        CHECK.due("nothing is lost by it", law.count(0), 1);
        told(";", -1000);
        told("e16;", 1);
    }

    private static void kindOne() {
        CHECK.sentence("FAULT: kind 1 the place of the first letter with which no LAND can go on");
        // At each place of each statement, at the front and behind another, each sign that doesn't fit.
        for (String sample : SAMPLES) {
            for (int place = 0; place < sample.length(); place++) {
                for (char wrong : "\0 /:;<=acdehtvwxyzCT0\u00ff".toCharArray()) {
                    if (!fits(sample, place, wrong)) {
                        String text = sample.substring(0, place) + wrong + sample.substring(place + 1);
                        told(text, -1000 - place);
                        told("e16;" + text, -1004 - place);
                    }
                }
            }
        }
        // The first of several.
        told("c0z0;?", -1002);
        told("e16;e1?;??", -1006);
        told("z".repeat(96), -1000);
        told("e16;".repeat(23) + "e16?", -1095);
    }

    private static boolean fits(String sample, int place, char sign) {
        char due = sample.charAt(place);
        if (place == 0) {
            return "ctvexdh".indexOf(sign) >= 0;
        }
        if (Character.isDigit(due)) {
            return sign >= '0' && sign <= '9';
        }
        return due == ';' ? sign == ';' : "tshcbw".indexOf(sign) >= 0;
    }

    private static void theEnd() {
        CHECK.sentence("(the end, if something lacks): -1000 less the place;");
        for (String sample : SAMPLES) {
            for (int length = 1; length < sample.length(); length++) {
                told(sample.substring(0, length), -1000 - length);
                told("e16;e00;" + sample.substring(0, length), -1008 - length);
            }
        }
        // The last place of all: 96 letters, and the last statement lacks its end.
        told("e16;".repeat(23) + "tt00", -1096);
        told("e16;".repeat(22) + "tt000;tt", -1096);
        told("e16;".repeat(23) + "e16", -1095);
    }

    private static void kindTwo() {
        CHECK.sentence("else kind 2 the place of the first letter of the first STATEMENT that, behind all ahead of it "
            + "in the text, is not as it must be");
        told("e17;", -2000);
        told("e16;e17;", -2004);
        told("e17;e18;", -2000);
        told("e16;c160;e17;", -2004);
        told("e16;".repeat(23) + "e17;", -2092);
        told("c000;tt000;vt00;e00;x0;d000;h01;h00;", -2032);
        // A fault of kind 1 goes before it, even far behind it.
        told("e17;?", -1004);
        told("e17;e1", -1006);
        told("e17;" + "e16;".repeat(22) + "e16?", -1095);
    }

    private static void outOfRange() {
        CHECK.sentence("(a number out of range,");
        told("c159;c160;", -2005);
        told("tt915;tt916;", -2006);
        told("vt29;vt39;", -2005);
        told("e16;e17;", -2004);
        told("tt000;d015;d016;", -2011);
        told("h60;h61;", -2004);
        told("h01;h00;", -2004);
    }

    private static void noSuchThingSoFar() {
        CHECK.sentence("no such THING so far,");
        told("x0;", -2000);
        told("d000;", -2000);
        told("x0;tt000;", -2000);
        told("d000;tt000;", -2000);
        told("tt000;x0;", 2);
        told("tt000;d000;", 2);
        told("tt000;x1;tt000;", -2006);
        told("tt000;d100;tt000;", -2006);
        told("tt000;tt000;x1;d100;", 4);
        toldToOne("x0;x1;", -2003);
        toldToOne("tt000;x1;x2;", -2009);
    }

    private static void hourAbove() {
        CHECK.sentence("HOUR above 999,");
        told("h60;".repeat(16) + "h39;", 17);
        told("h60;".repeat(16) + "h40;", -2064);
        told("h60;".repeat(17), -2064);
        told("h60;".repeat(16) + "h38;h01;", 18);
        told("h60;".repeat(16) + "h38;h02;", -2068);
        LawFromTheTree law = new LawFromTheTree();
        for (int i = 0; i < 16; i++) {
            law.hours(60);
        }
        CHECK.due("from 960, 40", Check.tell(law, "h40;"), -2000);
        CHECK.due("from 960, 20 and 20", Check.tell(law, "h20;h20;"), -2004);
        CHECK.due("still 960", law.count(1), 960);
        CHECK.due("from 960, 39", Check.tell(law, "h39;"), 1);
        CHECK.due("from 999, 1", Check.tell(law, "h01;"), -2000);
        CHECK.due("from 999, 60", Check.tell(law, "h60;"), -2000);
        CHECK.due("999", law.count(1), 999);
    }

    private static void noRoom() {
        CHECK.sentence("no room for more): -2000 less the place.");
        told("tt000;".repeat(7), 7);
        told("tt000;".repeat(8), -2042);
        for (int many = 0; many <= 7; many++) {
            LawFromTheTree law = new LawFromTheTree();
            for (int i = 0; i < many; i++) {
                Check.tell(law, "tt000;");
            }
            CHECK.due(many + " and too many", Check.tell(law, "tt000;".repeat(8 - many)), -2000 - 6 * (7 - many));
            CHECK.due("none of them came", law.count(0), many);
            if (many < 7) {
                CHECK.due(many + " and the rest", Check.tell(law, "tt000;".repeat(7 - many)), 7 - many);
                CHECK.due("seven", law.count(0), 7);
            }
        }
    }

    private static void allOrNothing() {
        CHECK.sentence("Without FAULT all of it comes, with one nothing.");
        String text = "c034;ts405;vs15;e09;x0;d108;h07;";
        for (String fault : new String[] {"?", "e", "e17;", "x9;", "tt000;".repeat(7)}) {
            LawFromTheTree law = Check.told("th000;th000;h02;");
            law.image();
            LawFromTheTree same = Check.told("th000;th000;h02;");
            same.image();
            CHECK.holds("a fault: " + fault, Check.tell(law, text + fault) <= -1000);
            CHECK.holds("nothing came with " + fault, Refusals.tellAll(law).equals(Refusals.tellAll(same)));
        }
        LawFromTheTree law = Check.told("th000;th000;h02;");
        CHECK.due("without", Check.tell(law, text), 7);
        CHECK.due("its height", law.height(3), 4);
        CHECK.due("its thing", law.thing(2, 1), 4);
        CHECK.due("its code", law.code(1, 1), 5);
        CHECK.due("its eyes", law.count(2), 9);
        CHECK.due("its hidden", law.count(3), 1);
        CHECK.due("its driven", law.thing(1, 2), 15);
        CHECK.due("its hours", law.count(1), 9);
    }
}
