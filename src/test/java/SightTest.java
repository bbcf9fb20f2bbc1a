/** Promises 14 to 21: what is seen from which branch, now and in mind. */
public final class SightTest {
    private static final Check CHECK = new Check("SightTest");

    /*
     * Cell 2 is 3 high, cell 5 is 6 high. Thing 0 (top 3) is ahead of both hills, thing 1 (top 2)
     * behind the first: from 4 on. Things 2 (top 5) and 3 (a bird, top 6) behind both: from 7 on.
     * Thing 4 has top 0: never.
     */
    private static final String HILLS = "c023;c056;tt301;tt204;tt508;tb010;tt000;";

    public static void main(String[] args) {
        seen();
        seenEdges();
        verdicts();
        blind();
        thingThen();
        seenThen();
        falls();
        sight();
        agree();
        appeal();
        branches();
        CHECK.end();
    }

    private static void seen() {
        LawFromTheTree law = Check.told(HILLS);
        int[] due = {1, 1, 1, 1, 3, 3, 3, 15, 15, 15};
        for (int branch = 0; branch < 10; branch++) {
            CHECK.due("seen(" + branch + ", 0)", law.seen(branch, 0), due[branch]);
        }
        CHECK.due("farthest from 0", law.seen(0, 3), 0);
        CHECK.due("farthest from 4", law.seen(4, 3), 1);
        CHECK.due("farthest from 7", law.seen(7, 3), 3);
        law.drives(2, 10);
        CHECK.due("farthest, the least of two", law.seen(7, 3), 2);
        law.hides(2);
        CHECK.due("seen without the hidden", law.seen(7, 0), 11);
        CHECK.due("farthest without the hidden", law.seen(7, 3), 3);
        CHECK.due("seen(10, 0)", law.seen(10, 0), -1);
        CHECK.due("seen(-1, 5)", law.seen(-1, 5), -1);
        CHECK.due("seen(0, 5)", law.seen(0, 5), -2);
        CHECK.due("seen(0, -1)", law.seen(0, -1), -2);
    }

    private static void seenEdges() {
        LawFromTheTree law = Check.told("c014;tt402;");
        CHECK.due("as high as the top, from below", law.seen(4, 0), 0);
        CHECK.due("as high as the top, from above", law.seen(5, 0), 1);
        law.turn(0, 0, 5);
        CHECK.due("a top above the hill", law.seen(0, 0), 1);
        law.drives(0, 1);
        law.turn(0, 0, 0);
        CHECK.due("a cell hides nothing of its own", law.seen(0, 0), 1);
        CHECK.due("top of the hill alone", law.thing(0, 4), 4);
        law.eyes(1);
        CHECK.due("farther than the eyes", law.seen(9, 0), 0);
        law.eyes(2);
        CHECK.due("as far as the eyes", law.seen(9, 0), 1);
        law.drives(0, 0);
        CHECK.due("top 0", law.seen(9, 0), 0);
        law.turn(0, 0, 1);
        law.eyes(1);
        CHECK.due("cell 0 is 1 far", law.seen(9, 0), 1);
        law.eyes(0);
        CHECK.due("no eyes", law.seen(9, 0), 0);
        CHECK.due("farthest of none", law.seen(9, 3), -9);
        LawFromTheTree flat = Check.told("tt115;c090;");
        CHECK.due("over flat land from branch 0", flat.seen(0, 0), 1);
        LawFromTheTree washing = Check.told("tw003;");
        CHECK.due("washing at an even hour", washing.seen(0, 0), 1);
        washing.hours(1);
        CHECK.due("washing at an odd hour", washing.seen(0, 0), 0);
        LawFromTheTree smoke = Check.told("ts003;");
        CHECK.due("smoke of 0 at an even hour", smoke.seen(0, 0), 0);
        smoke.hours(1);
        CHECK.due("smoke of 0 at an odd hour", smoke.seen(0, 0), 1);
    }

    private static void verdicts() {
        LawFromTheTree law = Check.told(HILLS);
        CHECK.due("no code", law.seen(9, 1), 0);
        CHECK.due("nobody decides", law.seen(9, 2), -9);
        law.decrees(0, 1, 4);
        law.decrees(4, 2, 4);
        CHECK.due("one rank: the least thing", law.seen(9, 1), 1);
        CHECK.due("one rank: it decides", law.seen(9, 2), 0);
        law.decrees(4, 2, 5);
        CHECK.due("a greater rank", law.seen(9, 1), 2);
        CHECK.due("the bird decides", law.seen(9, 2), 3);
        CHECK.due("where it isn't seen", law.seen(6, 1), 1);
        law.decrees(4, 0, 9);
        CHECK.due("no verdict, however ranked", law.seen(9, 2), 0);
        law.decrees(0, 2, 0);
        CHECK.due("rank 0 decides too", law.seen(9, 1), 2);
        law.hides(0);
        CHECK.due("a hidden one doesn't", law.seen(0, 1), 0);
        CHECK.due("another does", law.seen(4, 2), 1);
    }

    private static void blind() {
        LawFromTheTree law = Check.told("c023;c056;");
        // From 3: behind cell 2 all of 1, not the hill of 6 (top 7); behind it all.
        CHECK.due("blind from 3", law.seen(3, 4), 0xffff & ~0b100111);
        CHECK.due("blind from 4", law.seen(4, 4), 0xffff & ~0b111111);
        CHECK.due("blind from 7", law.seen(7, 4), 0);
        law.eyes(4);
        CHECK.due("blind beyond the eyes", law.seen(7, 4), 0xfff0);
        law.eyes(0);
        CHECK.due("blind without eyes", law.seen(9, 4), 0xffff);
        law.eyes(16);
        law.heaps(2, 7);
        CHECK.due("a hill as high as a top", law.seen(0, 4), 0xfff8);
        law.heaps(2, 6);
        CHECK.due("a hill lower than a top", law.seen(0, 4), 0xfff8 & ~0b100000);
    }

    private static void thingThen() {
        LawFromTheTree law = Check.told("th014;tb015;tc103;tt409;");
        CHECK.due("the horse now", law.thingThen(0, 0), 14);
        CHECK.due("the horse round", law.thingThen(0, 2), 0);
        CHECK.due("the horse 60 on", law.thingThen(0, 60), (14 + 60) % 16);
        CHECK.due("the bird round", law.thingThen(1, 1), 1);
        CHECK.due("the cow of 1 by 3, 6, 9", law.thingThen(2, 9), 6);
        CHECK.due("the cow of 1 before 9", law.thingThen(2, 8), 5);
        CHECK.due("the tree", law.thingThen(3, 60), 9);
        CHECK.due("nothing went", law.thing(0, 2), 14);
        CHECK.due("no hour went by", law.count(1), 0);
        law.hours(2);
        CHECK.due("the cow by the hour as it is", law.thingThen(2, 1), 4);
        CHECK.due("thingThen(4, -1)", law.thingThen(4, -1), -1);
        CHECK.due("thingThen(-1, 61)", law.thingThen(-1, 61), -1);
        CHECK.due("thingThen(0, -1)", law.thingThen(0, -1), -4);
        CHECK.due("thingThen(0, 61)", law.thingThen(0, 61), -6);
        LawFromTheTree late = Check.told("th000;" + "h60;".repeat(16), "h39;d000;");
        CHECK.due("in mind beyond 999", late.thingThen(0, 60), 60 % 16);
    }

    private static void seenThen() {
        LawFromTheTree law = Check.told("c053;th003;tw001;vh15;vw27;");
        CHECK.due("now", law.seenThen(3, 0, 0), 3);
        CHECK.due("verdict now", law.seenThen(3, 0, 1), 2);
        CHECK.due("odd: no washing", law.seenThen(3, 1, 0), 1);
        CHECK.due("verdict of the horse", law.seenThen(3, 1, 1), 1);
        CHECK.due("the horse on the hill", law.seenThen(3, 2, 0), 3);
        CHECK.due("the horse behind the hill", law.seenThen(3, 3, 0), 0);
        CHECK.due("no verdict then", law.seenThen(3, 3, 1), 0);
        CHECK.due("from above the hill", law.seenThen(4, 3, 0), 1);
        CHECK.due("seenThen(10, -1, 2)", law.seenThen(10, -1, 2), -1);
        CHECK.due("seenThen(0, -1, 2)", law.seenThen(0, -1, 2), -4);
        CHECK.due("seenThen(0, 61, 2)", law.seenThen(0, 61, 2), -6);
        CHECK.due("seenThen(0, 60, 2)", law.seenThen(0, 60, 2), -2);
        CHECK.due("seenThen(0, 60, -1)", law.seenThen(0, 60, -1), -2);
        CHECK.due("no hour went by", law.count(1), 0);
    }

    private static void falls() {
        LawFromTheTree law = Check.told("c053;th003;tw001;vh15;vw27;");
        CHECK.due("free at once", law.falls(3, 2), 0);
        CHECK.due("guilty behind 1", law.falls(3, 1), 1);
        CHECK.due("nothing behind 3", law.falls(3, 0), 3);
        CHECK.due("never nothing from above", law.falls(4, 0), -9);
        CHECK.due("falls(10, 3)", law.falls(10, 3), -1);
        CHECK.due("falls(0, 3)", law.falls(0, 3), -2);
        CHECK.due("falls(0, -1)", law.falls(0, -1), -2);
        // A cow of 9 at cell 0 goes at 11, 22, 33, 44, 55: it's in cell 5 behind 55 hours.
        LawFromTheTree cow = Check.told("tc900;vc13;c049;");
        CHECK.due("hidden by the hill behind 55", cow.falls(9, 0), 55);
        CHECK.due("seen ahead of it", cow.falls(9, 1), 0);
        cow.heaps(4, 0);
        cow.heaps(5, 9);
        CHECK.due("never within 60", cow.falls(9, 0), -9);
        // From cell 0 it would be hidden by the 60th hour exactly.
        LawFromTheTree sixty = Check.told("tc400;vc13;c099;");
        CHECK.due("behind 60", sixty.falls(9, 0), 60);
        CHECK.due("the sight ends", sixty.sight(9, 0, 1), 60);
    }

    private static void sight() {
        LawFromTheTree law = Check.told("c053;th006;tt000;tw001;");
        // The horse is behind the hill until it comes round to cell 0, behind 10 hours.
        CHECK.due("first seen behind 10", law.sight(3, 0, 0), 10);
        CHECK.due("first seen from above", law.sight(4, 0, 0), 0);
        CHECK.due("how often from above", law.sight(4, 0, 1), 61);
        // Seen in cells 0 .. 5: hours 10 .. 15, 26 .. 31, 42 .. 47, 58 .. 60.
        CHECK.due("how often", law.sight(3, 0, 1), 21);
        CHECK.due("never", law.sight(9, 1, 0), -9);
        CHECK.due("never: 0", law.sight(9, 1, 1), 0);
        CHECK.due("washing at even hours", law.sight(0, 2, 1), 31);
        law.hides(2);
        CHECK.due("hidden", law.sight(0, 2, 0), -9);
        CHECK.due("sight(10, 0, 2)", law.sight(10, 0, 2), -1);
        CHECK.due("sight(0, 3, 2)", law.sight(0, 3, 2), -1);
        CHECK.due("sight(0, -1, 0)", law.sight(0, -1, 0), -1);
        CHECK.due("sight(0, 0, 2)", law.sight(0, 0, 2), -2);
        CHECK.due("sight(0, 0, -1)", law.sight(0, 0, -1), -2);
        CHECK.due("no hour went by", law.count(1), 0);
    }

    private static void agree() {
        LawFromTheTree law = Check.told("c053;th006;vh11;");
        CHECK.due("once it's round", law.agree(), 10);
        law.drives(0, 5);
        CHECK.due("at once", law.agree(), 0);
        LawFromTheTree never = Check.told("c053;tt106;vt11;");
        CHECK.due("never", never.agree(), -9);
        LawFromTheTree tenth = Check.told("c058;tt106;vt11;");
        CHECK.due("branch 9 alone differs", tenth.agree(), -9);
        CHECK.due("its appeal", tenth.appeal(0), 9);
        // A cow of 4 goes each 6th hour: behind the hill until it's on it, in cell 0, behind 60.
        LawFromTheTree sixty = Check.told("tc406;vc13;c008;");
        CHECK.due("not until it's round", sixty.agree(), 60);
    }

    private static void appeal() {
        LawFromTheTree law = Check.told(HILLS, "vt15;vb29;");
        CHECK.due("appeal(0)", law.appeal(0), 7);
        CHECK.due("appeal(6)", law.appeal(6), 7);
        CHECK.due("appeal(7)", law.appeal(7), -9);
        CHECK.due("appeal(9)", law.appeal(9), -9);
        law.hides(0);
        CHECK.due("appeal(0) from nothing", law.appeal(0), 4);
        CHECK.due("appeal(4)", law.appeal(4), 7);
        CHECK.due("appeal(10)", law.appeal(10), -1);
        CHECK.due("appeal(-1)", law.appeal(-1), -1);
    }

    private static void branches() {
        LawFromTheTree law = Check.told(HILLS, "vt15;vb29;x0;");
        CHECK.due("branches(0)", law.branches(0), 0b0000001111);
        CHECK.due("branches(1)", law.branches(1), 0b0001110000);
        CHECK.due("branches(2)", law.branches(2), 0b1110000000);
        CHECK.due("branches(3)", law.branches(3), -2);
        CHECK.due("branches(-1)", law.branches(-1), -2);
    }
}
