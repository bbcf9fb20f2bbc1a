/** Promises 37 to 39: the image, on from it, and the counts. */
public final class ImageTest {
    private static final Check CHECK = new Check("ImageTest");

    public static void main(String[] args) {
        imageAndOn();
        whatStays();
        counts();
        refusalsAreCounted();
        CHECK.end();
    }

    private static void imageAndOn() {
        LawFromTheTree law = new LawFromTheTree();
        CHECK.due("on() without an image", law.on(), -3);
        CHECK.due("count(13)", law.count(13), 1);
        Check.tell(law, "c034;th305;tt107;vh13;vt24;e10;x1;h02;");
        CHECK.due("image()", law.image(), 2);
        Check.tell(law, "c055;c030;ts000;vh01;e03;x0;x1;d000;h05;");
        law.turn(1, 4, 4);
        CHECK.due("on()", law.on(), 2);
        CHECK.due("things", law.count(0), 2);
        CHECK.due("hour", law.count(1), 2);
        CHECK.due("eyes", law.count(2), 10);
        CHECK.due("hidden", law.count(3), 2);
        CHECK.due("heights", law.count(4), 4);
        CHECK.due("height(3)", law.height(3), 4);
        CHECK.due("ranks", law.count(5), 7);
        CHECK.due("verdict", law.code(2, 0), 1);
        CHECK.due("cell", law.thing(0, 2), 7);
        CHECK.due("kind", law.thing(1, 0), 0);
        CHECK.due("figure", law.thing(1, 1), 1);
        CHECK.due("blind", law.seen(4, 4), 0xfff0);
        law.hours(7);
        CHECK.due("on() again", law.on(), 2);
        law.hours(7);
        CHECK.due("another image", law.image(), 9);
        law.hours(1);
        CHECK.due("on() from the other", law.on(), 9);
    }

    private static void whatStays() {
        LawFromTheTree law = new LawFromTheTree();
        law.row(4);
        law.letter('e');
        law.image();
        law.row(5);
        law.letter('0');
        law.letter('7');
        law.letter(-1);
        CHECK.due("on()", law.on(), 0);
        CHECK.due("the row stays", law.count(6), 2);
        CHECK.due("the letters stay", law.count(7), 3);
        CHECK.due("the refusals stay", law.count(14), 1);
        law.letter(';');
        CHECK.due("the letters still tell", law.land(), 1);
        CHECK.due("eyes", law.count(2), 7);
        CHECK.due("the image stays", law.on(), 0);
        CHECK.due("eyes of the image", law.count(2), 16);
        CHECK.due("no image here", new LawFromTheTree().on(), -3);
    }

    private static void counts() {
        LawFromTheTree law = Check.told("c034;c157;th305;tt107;ts107;vh13;vt24;e10;x2;x0;h02;");
        law.row(9);
        law.letter('c');
        law.letter('c');
        int[] due = {3, 2, 10, 0b101, 11, 7, 1, 2, -9, -9, -9, 0, 0, 0, 0, 0, 0, -9};
        for (int what = 0; what < due.length; what++) {
            CHECK.due("count(" + what + ")", law.count(what), due[what]);
        }
        CHECK.due("count(-1)", law.count(-1), -9);
        CHECK.due("count(least)", law.count(Integer.MIN_VALUE), -9);
        CHECK.due("count(greatest)", law.count(Integer.MAX_VALUE), -9);
        for (int what = 11; what <= 16; what++) {
            CHECK.due("no refusal: count(" + what + ")", law.count(what), 0);
        }
    }

    private static void refusalsAreCounted() {
        LawFromTheTree law = new LawFromTheTree();
        law.height(16);
        law.thing(0, 0);
        law.window(9);
        law.mean(5);
        law.mean(6);
        law.on();
        law.eyes(-1);
        law.mist(0, -1, 2, 0, 0);
        law.row(100);
        int[] due = {2, 3, 1, 2, 0, 1};
        for (int i = 0; i < due.length; i++) {
            CHECK.due("count(" + (11 + i) + ")", law.count(11 + i), due[i]);
        }
    }
}
