import java.util.List;

/** The edges of promises 37 to 39, of the image, of what each refusal is for, and of 512 calls. */
public final class ImageEdgesTest {
    private static final Check CHECK = new Check("ImageEdgesTest");

    public static void main(String[] args) {
        callsOfAnObject();
        allButTheRow();
        image();
        on();
        nobody();
        other();
        state();
        below();
        room();
        ofLongs();
        count();
        CHECK.end();
    }

    private static void callsOfAnObject() {
        CHECK.sentence("An object is used for at most 512 calls after it has been made; what later calls answer is free.");
        LawFromTheTree refused = new LawFromTheTree();
        for (int i = 1; i <= 511; i++) {
            refused.height(16);
        }
        CHECK.due("511 refusals", refused.count(11), 511);
        LawFromTheTree letters = new LawFromTheTree();
        int calls = 0;
        for (int i = 0; i < 5; i++) {
            Check.tell(letters, "h60;".repeat(3) + "e16;".repeat(21));
            calls += 97;
        }
        CHECK.due("27 more", letters.hours(27), 927);
        CHECK.due("calls so far", calls + 1, 486);
        for (int i = calls + 1; i < 511; i++) {
            letters.image();
        }
        CHECK.due("the 512th call", letters.on(), 927);
    }

    private static LawFromTheTree changed() {
        LawFromTheTree law = Check.told("c034;th305;tt107;vh13;vt24;e10;x1;h02;");
        law.image();
        Check.tell(law, "c055;c030;ts000;vh01;vw29;e03;x0;x1;d000;h05;");
        law.turn(1, 4, 4);
        return law;
    }

    private static void allButTheRow() {
        CHECK.sentence("THE IMAGE: all that there is, but it, the ROW, letters, REFUSALS; ON from it all is as then.");
        LawFromTheTree law = changed();
        law.row(4);
        law.row(99);
        law.letter('e');
        law.letter('0');
        law.height(-1);
        CHECK.due("on()", law.on(), 2);
        CHECK.due("the row is as it is", law.count(6), 2);
        CHECK.due("the letters are as they are", law.count(7), 2);
        CHECK.due("the refusals are as they are", law.count(11), 1);
        LawFromTheTree then = Check.told("c034;th305;tt107;vh13;vt24;e10;x1;h02;");
        then.image();
        law.clear();
        law.letter('?');
        law.land();
        List<Long> due = Refusals.tellAll(then);
        CHECK.holds("all is as then", due.equals(Refusals.tellAll(law)));
        rowAndLettersTakenLater();
    }

    private static void rowAndLettersTakenLater() {
        LawFromTheTree law = new LawFromTheTree();
        law.row(1);
        law.letter('e');
        law.height(-1);
        law.image();
        law.clear();
        law.land();
        law.height(-1);
        law.on();
        CHECK.due("no row of then", law.count(6), 0);
        CHECK.due("no letters of then", law.count(7), 0);
        CHECK.due("no refusals of then", law.count(11), 2);
        law.hours(3);
        law.on();
        CHECK.due("it is not spent by on()", law.on(), 0);
    }

    private static void image() {
        CHECK.sentence("`int image()`: THE IMAGE is taken: HOUR.");
        LawFromTheTree law = new LawFromTheTree();
        CHECK.due("at hour 0", law.image(), 0);
        law.hours(60);
        CHECK.due("another in its place", law.image(), 60);
        law.hours(1);
        CHECK.due("on from the other", law.on(), 60);
        CHECK.due("at the last hour", Check.toldAtTheLastHour("e16;").image(), 999);
    }

    private static void on() {
        CHECK.sentence("`int on()`: ON from it: HOUR. -3 there is none.");
        new Refusals(CHECK, LawFromTheTree::new).refused(-3, "on");
        LawFromTheTree none = Check.told("c023;ts301;");
        CHECK.due("none", none.on(), -3);
        CHECK.due("nothing changes", none.count(0), 1);
        CHECK.due("it is counted", none.count(13), 1);
        none.image();
        none.heaps(2, 9);
        CHECK.due("one", none.on(), 0);
        CHECK.due("as then", none.height(2), 3);
        CHECK.due("not counted again", none.count(13), 1);
        LawFromTheTree last = Check.toldAtTheLastHour("th000;");
        last.image();
        last.drives(0, 9);
        CHECK.due("at the last hour", last.on(), 999);
        CHECK.due("as it was there", last.thing(0, 2), 0);
        // An image of an empty land, taken before things came: they are no more.
        LawFromTheTree empty = new LawFromTheTree();
        empty.image();
        Check.tell(empty, "tt000;".repeat(7));
        empty.on();
        CHECK.due("no things then", empty.count(0), 0);
        CHECK.due("no thing 0", empty.thing(0, 0), -1);
        CHECK.due("room for seven", Check.tell(empty, "ts000;".repeat(7)), 7);
        CHECK.due("not hidden, of their own kind", empty.thing(6, 0) * 10 + empty.thing(6, 3), 10);
    }

    private static void nobody() {
        CHECK.sentence("-1 NOBODY: no such CELL, BRANCH, THING, one twice.");
        Refusals sample = new Refusals(CHECK, RefusalOrderTest::sample);
        sample.refused(-1, "height", 16);
        sample.refused(-1, "seen", 10, 0);
        sample.refused(-1, "thing", 7, 0);
        sample.refused(-1, "two", 3, 3, 0);
    }

    private static void other() {
        CHECK.sentence("-2 OTHER: what, KIND, VERDICT.");
        Refusals sample = new Refusals(CHECK, RefusalOrderTest::sample);
        sample.refused(-2, "window", 5);
        sample.refused(-2, "code", 6, 0);
        sample.refused(-2, "branches", 3);
    }

    private static void state() {
        CHECK.sentence("-3 STATE: it is not as it must be.");
        new Refusals(CHECK, () -> Check.told("c023;ts301;")).refused(-3, "on");
    }

    private static void below() {
        CHECK.sentence("-4 BELOW: a number below the least.");
        Refusals sample = new Refusals(CHECK, RefusalOrderTest::sample);
        sample.refused(-4, "letter", -1);
        sample.refused(-4, "hours", 0);
        sample.refused(-4, "lots", 0, 0, 0);
    }

    private static void room() {
        CHECK.sentence("-6 ROOM: a number above the greatest, no room.");
        Refusals sample = new Refusals(CHECK, RefusalOrderTest::sample);
        sample.refused(-6, "letter", 256);
        sample.refused(-6, "eyes", 17);
        new Refusals(CHECK, ImageEdgesTest::full).refused(-6, "letter", ';');
        new Refusals(CHECK, ImageEdgesTest::full).refused(-6, "row", 0);
    }

    private static LawFromTheTree full() {
        LawFromTheTree law = new LawFromTheTree();
        for (int i = 0; i < 96; i++) {
            law.letter(';');
        }
        for (int i = 0; i < 16; i++) {
            law.row(0);
        }
        return law;
    }

    private static void ofLongs() {
        CHECK.sentence("Of longs they are 4000000000000000000 less them (-1 as 4000000000000000001).");
        LawFromTheTree law = new LawFromTheTree();
        CHECK.due("-1", law.mist(10, 0, 2, 0, 0), 4000000000000000001L);
        CHECK.due("-2", law.mist(0, 0, 2, 3, 0), 4000000000000000002L);
        CHECK.due("-2 of mean", law.mean(2), 4000000000000000002L);
        CHECK.due("-4", law.mist(0, -1, 2, 0, 0), 4000000000000000004L);
        CHECK.due("-6", law.mist(0, 8, 2, 0, 0), 4000000000000000006L);
        int[] due = {1, 2, 0, 1, 0, 1};
        for (int i = 0; i < due.length; i++) {
            CHECK.due("counted as the others: count(" + (11 + i) + ")", law.count(11 + i), due[i]);
        }
    }

    private static void count() {
        CHECK.sentence("`int count(int what)`: 0 THINGS, 1 HOUR, 2 EYES, 3 HIDDEN (bits), 4 all HEIGHTS, 5 all RANKS, 6 in the ROW, "
            + "7 letters, 11 .. 16 REFUSALS -1 .. -6. -9 for another what.");
        LawFromTheTree full = Check.told("tt000;".repeat(7) + "x0;x1;x2;x3;x4;x5;x6;", "h60;".repeat(16) + "h39;");
        for (int cell = 0; cell <= 15; cell++) {
            full.heaps(cell, 9);
        }
        for (int kind = 0; kind <= 5; kind++) {
            full.decrees(kind, 0, 9);
        }
        for (int i = 0; i < 16; i++) {
            full.row(99);
        }
        for (int i = 0; i < 96; i++) {
            full.letter(255);
        }
        counts("all full", full, 7, 999, 16, 127, 144, 54, 16, 96);
        counts("all empty", new LawFromTheTree(), 0, 0, 16, 0, 0, 0, 0, 0);
        LawFromTheTree law = new LawFromTheTree();
        for (int what : new int[] {Integer.MIN_VALUE, -1, 8, 9, 10, 17, 18, Integer.MAX_VALUE}) {
            CHECK.due("count(" + what + ")", law.count(what), -9);
        }
        for (int what = 11; what <= 16; what++) {
            CHECK.due("-9 is no refusal: count(" + what + ")", law.count(what), 0);
        }
        refusals();
    }

    private static void counts(String name, LawFromTheTree law, int... due) {
        for (int what = 0; what < due.length; what++) {
            CHECK.due(name + ": count(" + what + ")", law.count(what), due[what]);
        }
    }

    private static void refusals() {
        LawFromTheTree law = new LawFromTheTree();
        for (int i = 1; i <= 3; i++) {
            law.height(16);
            law.window(5);
            law.on();
            law.eyes(-1);
            law.eyes(17);
            int[] due = {i, i, i, i, 0, i};
            for (int what = 11; what <= 16; what++) {
                CHECK.due("refusals: count(" + what + ")", law.count(what), due[what - 11]);
            }
        }
    }
}
