/** Promises 30 to 36: mist, the mean, where a thing was, the row, lots. */
public final class OddsTest {
    private static final Check CHECK = new Check("OddsTest");
    private static final long REFUSED = 4000000000000000000L;

    public static void main(String[] args) {
        mist();
        mistGoesByHours();
        mean();
        whereWas();
        row();
        judge();
        lots();
        CHECK.end();
    }

    private static void mist() {
        // A tree 10 far: seen with eyes of 16, 13 and 10, not of 7.
        LawFromTheTree law = Check.told("tt109;vt13;");
        fraction(law, 0, 2, 1, 1, 1);
        fraction(law, 0, 2, 0, 0, 1);
        fraction(law, 2, 3, 1, 1, 1);
        // 3 mists of 3: 1 in 27.
        fraction(law, 3, 3, 1, 26, 27);
        fraction(law, 3, 3, 0, 1, 27);
        // 3 or 4 mists of 4, t 3: 4 * 2 + 1 of 81.
        fraction(law, 4, 3, 0, 1, 9);
        fraction(law, 4, 3, 1, 8, 9);
        // 3 .. 7 mists of 7, t 2: 128 - 1 - 7 - 21.
        fraction(law, 7, 2, 0, 99, 128);
        // At most 2 mists of 7, t 20: 19 ^ 5 * (361 + 7 * 19 + 21) of 20 ^ 7.
        fraction(law, 7, 20, 1, 2476099L * 515 / 5, 256000000L);
        fraction(law, 7, 20, 2, 0, 1);
        law.eyes(3);
        law.drives(0, 0);
        // Eyes of 3 and none: never fewer than 0.
        fraction(law, 7, 2, 1, 1, 128);
        law.eyes(2);
        fraction(law, 2, 2, 0, 3, 4);
        CHECK.due("eyes stay", law.count(2), 2);
        CHECK.due("mist(10, -1, 1, 3, 2)", law.mist(10, -1, 1, 3, 2), REFUSED + 1);
        CHECK.due("mist(-1, ..)", law.mist(-1, 0, 2, 0, 0), REFUSED + 1);
        CHECK.due("mist(0, -1, 21, ..)", law.mist(0, -1, 21, 3, 2), REFUSED + 4);
        CHECK.due("mist(0, 8, 1, ..)", law.mist(0, 8, 1, 3, 2), REFUSED + 4);
        CHECK.due("mist(0, 8, 2, ..)", law.mist(0, 8, 2, 3, 2), REFUSED + 6);
        CHECK.due("mist(0, 0, 21, ..)", law.mist(0, 0, 21, 3, 2), REFUSED + 6);
        CHECK.due("mist(0, 0, 2, 3, 0)", law.mist(0, 0, 2, 3, 0), REFUSED + 2);
        CHECK.due("mist(0, 0, 2, -1, 0)", law.mist(0, 0, 2, -1, 0), REFUSED + 2);
        CHECK.due("mist(0, 0, 2, 0, 2)", law.mist(0, 0, 2, 0, 2), REFUSED + 2);
        CHECK.due("mist(0, 0, 2, 0, -1)", law.mist(0, 0, 2, 0, -1), REFUSED + 2);
        int[] refusals = {2, 4, 0, 2, 0, 2};
        for (int i = 0; i < refusals.length; i++) {
            CHECK.due("count(" + (11 + i) + ")", law.count(11 + i), refusals[i]);
        }
    }

    private static void mistGoesByHours() {
        // The horse 14 far is 16 far behind 2 hours: any mist hides it; behind 3 it's 1 far.
        LawFromTheTree law = Check.told("th013;vh13;");
        fraction(law, 1, 4, 1, 3, 4);
        fraction(law, 2, 4, 1, 9, 16);
        fraction(law, 3, 4, 1, 1, 1);
        CHECK.due("no hour went by", law.count(1), 0);
        CHECK.due("the horse stayed", law.thing(0, 2), 13);
    }

    private static void fraction(LawFromTheTree law, int n, int t, int verdict, long above, long below) {
        String call = "mist(9, " + n + ", " + t + ", " + verdict + ", ";
        CHECK.due(call + "0)", law.mist(9, n, t, verdict, 0), above);
        CHECK.due(call + "1)", law.mist(9, n, t, verdict, 1), below);
    }

    private static void mean() {
        LawFromTheTree law = new LawFromTheTree();
        CHECK.due("mean(0) of none", law.mean(0), 0);
        CHECK.due("mean(1) of none", law.mean(1), 1);
        law.heaps(15, 9);
        CHECK.due("mean(0) of 9", law.mean(0), 9);
        CHECK.due("mean(1) of 9", law.mean(1), 16);
        law.heaps(0, 3);
        CHECK.due("mean(0) of 12", law.mean(0), 3);
        CHECK.due("mean(1) of 12", law.mean(1), 4);
        for (int cell = 0; cell < 16; cell++) {
            law.heaps(cell, 9);
        }
        CHECK.due("mean(0) of all 9", law.mean(0), 9);
        CHECK.due("mean(1) of all 9", law.mean(1), 1);
        CHECK.due("mean(2)", law.mean(2), REFUSED + 2);
        CHECK.due("mean(-1)", law.mean(-1), REFUSED + 2);
        CHECK.due("count(12)", law.count(12), 2);
    }

    private static void whereWas() {
        // Behind cell 5 nothing low is seen from branch 3.
        LawFromTheTree law = Check.told("c053;th302;vh13;vt21;vs15;vc14;vb15;vw25;");
        CHECK.due("no row: anywhere", law.whereWas(0, 3, 0), 0xffff);
        CHECK.due("no row: any kind", law.whereWas(0, 3, 1), 0b111111);
        law.row(1);
        law.row(1);
        law.row(0);
        CHECK.due("seen twice, then not: cell 4", law.whereWas(0, 3, 0), 1 << 4);
        CHECK.due("never so from above", law.whereWas(0, 4, 0), 0);
        CHECK.due("the row stays", law.count(6), 3);
        CHECK.due("nor is it of another kind", law.whereWas(0, 3, 1), 0);
        law.clear();
        law.row(1);
        law.row(1);
        // Guilty: smoke (top 3, 4), horse, cow, bird; the tree and washing are free.
        CHECK.due("guilty kinds", law.whereWas(0, 3, 1), 0b011110);
        law.drives(0, 14);
        // Behind the hill of 3 from branch 3: smoke of 3 is hidden at even hours; the bird isn't.
        CHECK.due("guilty kinds behind", law.whereWas(0, 3, 1), 0b010000);
        law.clear();
        law.row(0);
        law.row(1);
        CHECK.due("smoke rises over the hill", law.whereWas(0, 3, 1), 0b000010);
        CHECK.due("round to cell 0", law.whereWas(0, 3, 0), 1 << 15);
        law.row(3);
        CHECK.due("no such verdict", law.whereWas(0, 3, 0), 0);
        CHECK.due("the thing stayed", law.thing(0, 2), 14);
        CHECK.due("the kind too", law.thing(0, 0), 2);
        CHECK.due("no hour went by", law.count(1), 0);
        CHECK.due("whereWas(1, 0, 2)", law.whereWas(1, 0, 2), -1);
        CHECK.due("whereWas(-1, 0, 0)", law.whereWas(-1, 0, 0), -1);
        CHECK.due("whereWas(0, 10, 2)", law.whereWas(0, 10, 2), -1);
        CHECK.due("whereWas(0, -1, 0)", law.whereWas(0, -1, 0), -1);
        CHECK.due("whereWas(0, 0, 2)", law.whereWas(0, 0, 2), -2);
        CHECK.due("whereWas(0, 0, -1)", law.whereWas(0, 0, -1), -2);
    }

    private static void row() {
        LawFromTheTree law = new LawFromTheTree();
        CHECK.due("clear() of none", law.clear(), 0);
        CHECK.due("row(-1)", law.row(-1), -4);
        CHECK.due("row(100)", law.row(100), -6);
        for (int i = 1; i <= 16; i++) {
            CHECK.due("row " + i, law.row(i % 2 == 0 ? 0 : 99), i);
        }
        CHECK.due("row 17", law.row(0), -6);
        CHECK.due("row 17 below", law.row(-1), -4);
        CHECK.due("count(6)", law.count(6), 16);
        CHECK.due("clear()", law.clear(), 16);
        CHECK.due("count(6) behind", law.count(6), 0);
        CHECK.due("row 1 again", law.row(5), 1);
        CHECK.due("clear() of 1", law.clear(), 1);
    }

    private static void judge() {
        LawFromTheTree law = Check.told("c002;c015;c159;");
        CHECK.due("judge() of none", law.judge(), -9);
        rowOf(law, 2, 5, 0);
        CHECK.due("all so", law.judge(), -9);
        CHECK.due("none then", law.count(6), 0);
        rowOf(law, 2, 5, 1, 7);
        CHECK.due("the first not so", law.judge(), 2);
        CHECK.due("none then either", law.count(6), 0);
        rowOf(law, 3);
        CHECK.due("cell 0", law.judge(), 0);
        rowOf(law, 2, 5, 0, 0, 0, 0, 0, 0, 0, 0, 0, 0, 0, 0, 0, 9);
        CHECK.due("all 16", law.judge(), -9);
        rowOf(law, 2, 5, 0, 0, 0, 0, 0, 0, 0, 0, 0, 0, 0, 0, 0, 99);
        CHECK.due("the last", law.judge(), 15);
    }

    private static void rowOf(LawFromTheTree law, int... numbers) {
        for (int number : numbers) {
            law.row(number);
        }
    }

    private static void lots() {
        LawFromTheTree law = Check.told("th000;tt000;vh15;vt27;");
        int[] z = {7};
        int guilty = 0;
        int seen = 0;
        // Over flat land the horse is seen wherever it is, the tree of figure 0 nowhere.
        law.eyes(8);
        for (int i = 0; i < 20; i++) {
            int cell = draw(z, 16);
            draw(z, 16);
            draw(z, 10);
            guilty += cell < 8 ? 1 : 0;
            seen += cell < 8 ? 1 : 0;
        }
        CHECK.due("lots(20, 7, 0)", law.lots(20, 7, 0), guilty);
        CHECK.due("lots(20, 7, 1)", law.lots(20, 7, 1), seen);
        CHECK.due("lots again", law.lots(20, 7, 1), seen);
        CHECK.due("the horse stayed", law.thing(0, 2), 0);
        law.decrees(2, 2, 5);
        CHECK.due("free isn't guilty", law.lots(20, 7, 0), 0);
        CHECK.due("but seen", law.lots(20, 7, 1), seen);
        CHECK.due("one term", law.lots(1, 7, 1), firstDraw(7) < 8 ? 1 : 0);
        branchesByLot();
        CHECK.due("lots(0, 0, 2)", law.lots(0, 0, 2), -4);
        CHECK.due("lots(21, 0, 2)", law.lots(21, 0, 2), -6);
        CHECK.due("lots(20, 0, 2)", law.lots(20, 0, 2), -2);
        CHECK.due("lots(1, 0, -1)", law.lots(1, 0, -1), -2);
    }

    private static void branchesByLot() {
        LawFromTheTree law = Check.told("c005;tt200;ts100;vt15;vs24;");
        law.hides(1);
        int[] z = {-123456789};
        int guilty = 0;
        for (int i = 0; i < 15; i++) {
            int cell = draw(z, 16);
            draw(z, 16);
            int branch = draw(z, 10);
            guilty += cell == 0 || branch > 5 ? 1 : 0;
        }
        CHECK.due("lots with a seed below 0", law.lots(15, -123456789, 0), guilty);
        CHECK.due("lots: the hidden draws, unseen", law.lots(15, -123456789, 1), guilty);
    }

    private static int firstDraw(int z) {
        return draw(new int[] {z}, 16);
    }

    private static int draw(int[] z, int below) {
        z[0] = z[0] * 1664525 + 1013904223;
        long unsigned = z[0] < 0 ? z[0] + 2147483648L : z[0];
        return (int) (unsigned / 256 % below);
    }
}
