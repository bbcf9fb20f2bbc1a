/** Promises 22 to 29: what is best, what to drive, what stands in the way, what to hide. */
public final class SearchTest {
    private static final Check CHECK = new Check("SearchTest");

    public static void main(String[] args) {
        best();
        drive();
        hill();
        screen();
        hide();
        eyesBest();
        ranked();
        window();
        two();
        CHECK.end();
    }

    private static void best() {
        // The horse is seen from below until it goes behind cell 5, by 3 hours.
        LawFromTheTree law = Check.told("c053;th003;vh15;");
        CHECK.due("of several the least", law.best(1, 2, 0), 0);
        CHECK.due("3 hours of 0 .. 2", law.best(1, 2, 1), 3);
        CHECK.due("from above the hill", law.best(1, 3, 0), 4);
        CHECK.due("all of 0 .. 30", law.best(1, 30, 1), 31);
        CHECK.due("nothing: from below", law.best(0, 30, 0), 0);
        // Behind the hill in cells 6 .. 15 by hours 3 .. 12, and 19 .. 28.
        CHECK.due("nothing: how many", law.best(0, 30, 1), 20);
        CHECK.due("now alone", law.best(1, 0, 1), 1);
        CHECK.due("never now", law.best(0, 0, 1), 0);
        CHECK.due("never: the least", law.best(2, 30, 0), 0);
        CHECK.due("never: 0", law.best(2, 30, 1), 0);
        CHECK.due("best(3, -1, 0)", law.best(3, -1, 0), -2);
        CHECK.due("best(-1, 0, 0)", law.best(-1, 0, 0), -2);
        CHECK.due("best(0, -1, 2)", law.best(0, -1, 2), -2);
        CHECK.due("best(0, 31, -1)", law.best(0, 31, -1), -2);
        CHECK.due("best(0, -1, 0)", law.best(0, -1, 0), -4);
        CHECK.due("best(0, 31, 0)", law.best(0, 31, 0), -6);
        CHECK.due("no hour went by", law.count(1), 0);
    }

    private static void drive() {
        LawFromTheTree law = Check.told("c053;tt106;tt000;vt15;");
        CHECK.due("ahead of the hill", law.drive(0, 1), 0);
        CHECK.due("nothing from most: behind it as now", law.drive(0, 0), -9);
        law.drives(0, 2);
        CHECK.due("all as they should be", law.drive(0, 1), -9);
        CHECK.due("behind the hill", law.drive(0, 0), 6);
        law.eyes(12);
        CHECK.due("beyond the eyes", law.drive(0, 0), 12);
        CHECK.due("never free", law.drive(0, 2), -9);
        CHECK.due("up the hill to be seen", law.drive(1, 1), -9);
        law.hides(0);
        CHECK.due("the flat one up the hill", law.drive(1, 1), 5);
        CHECK.due("it wasn't driven", law.thing(1, 2), 0);
        CHECK.due("drive(2, 3)", law.drive(2, 3), -1);
        CHECK.due("drive(-1, 0)", law.drive(-1, 0), -1);
        CHECK.due("drive(0, 3)", law.drive(0, 3), -2);
        CHECK.due("drive(0, -1)", law.drive(0, -1), -2);
        law.hides(1);
        CHECK.due("hidden, wherever", law.drive(1, 1), -9);
    }

    private static void hill() {
        // Two hills of 3: both hide 6, the first alone 4.
        LawFromTheTree law = Check.told("c033;c053;tt104;tt206;tt106;");
        CHECK.due("the first frees 4", law.hill(0, 0), 3);
        law.heaps(5, 0);
        CHECK.due("it frees all", law.hill(0, 0), 3);
        law.heaps(3, 0);
        CHECK.due("no hill", law.hill(0, 0), -9);
        law.heaps(3, 3);
        CHECK.due("from above it", law.hill(4, 0), -9);
        law.heaps(3, 0);
        law.heaps(0, 4);
        CHECK.due("cell 0 in the way", law.hill(0, 0), 0);
        law.heaps(0, 0);
        law.heaps(3, 3);
        law.drives(1, 3);
        law.turn(1, 0, 0);
        CHECK.due("it would lose one and win two", law.hill(0, 0), 3);
        law.hides(2);
        CHECK.due("it would lose one and win one", law.hill(0, 0), -9);
        CHECK.due("it stands", law.height(3), 3);
        CHECK.due("hill(10, 2)", law.hill(10, 2), -1);
        CHECK.due("hill(-1, 0)", law.hill(-1, 0), -1);
        CHECK.due("hill(0, 2)", law.hill(0, 2), -2);
        CHECK.due("hill(0, -1)", law.hill(0, -1), -2);
    }

    private static void screen() {
        LawFromTheTree law = Check.told("tt103;tt105;tb007;");
        CHECK.due("ahead of all", law.hill(9, 1), 0);
        law.drives(0, 0);
        CHECK.due("ahead of all but one", law.hill(9, 1), 0);
        law.hides(1);
        law.hides(2);
        CHECK.due("nothing is ahead of cell 0", law.hill(0, 1), -9);
        law.turn(0, 0, 0);
        CHECK.due("heaping shows it", law.hill(0, 1), -9);
        law.hides(1);
        // At cell 0 the heap would show thing 0, and hide thing 1; ahead of 5 cell 1 is the first.
        CHECK.due("cell 1 rather than 0", law.hill(0, 1), 1);
        CHECK.due("none was heaped", law.count(4), 0);
        LawFromTheTree none = Check.told("tt000;");
        CHECK.due("nothing is seen as it is", none.hill(0, 1), -9);
        LawFromTheTree high = Check.told("c059;tt105;");
        CHECK.due("a top of 10", high.hill(0, 1), -9);
    }

    private static void hide() {
        LawFromTheTree law = Check.told("tt100;th101;tb002;vt13;vh25;vb24;");
        CHECK.due("as it is", law.hide(2), 0);
        CHECK.due("two to be hidden", law.hide(1), 0b110);
        CHECK.due("all to be hidden", law.hide(0), 0b111);
        law.hides(1);
        CHECK.due("besides the hidden", law.hide(1), 0b100);
        CHECK.due("none was hidden", law.count(3), 0b010);
        law.hides(0);
        CHECK.due("never", law.hide(1), -9);
        CHECK.due("hide(3)", law.hide(3), -2);
        CHECK.due("hide(-1)", law.hide(-1), -2);
        // Of one rank smoke goes before washing, so the tree alone must go.
        LawFromTheTree few = Check.told("tt100;ts100;tw000;vt15;vs24;vw14;");
        CHECK.due("the one of rank 5", few.hide(2), 0b001);
        // The horses may stay, whatever their bits are.
        LawFromTheTree fewer = Check.told("th100;th101;tt102;vh12;vt23;");
        CHECK.due("the tree alone", fewer.hide(1), 0b100);
        LawFromTheTree apart = Check.told("c019;tt200;tt202;vt11;");
        CHECK.due("from each branch", apart.hide(0), 0b01);
        LawFromTheTree far = Check.told("c015;tt200;tt202;vt11;");
        CHECK.due("from branch 6 on too", far.hide(0), 0b11);
        LawFromTheTree seven = Check.told("tt100;".repeat(7) + "vt11;");
        CHECK.due("all seven", seven.hide(0), 0b1111111);
        CHECK.due("nothing to hide", new LawFromTheTree().hide(0), 0);
        CHECK.due("nobody to be guilty", new LawFromTheTree().hide(1), -9);
    }

    private static void eyesBest() {
        LawFromTheTree law = Check.told("tt102;th105;tb009;vt13;vh24;vb15;");
        CHECK.due("least for guilty", law.eyesBest(0, 1, 0), 3);
        CHECK.due("most for guilty", law.eyesBest(0, 1, 1), 16);
        CHECK.due("least for free", law.eyesBest(0, 2, 0), 6);
        CHECK.due("most for free", law.eyesBest(0, 2, 1), 9);
        CHECK.due("least for nothing", law.eyesBest(0, 0, 0), 0);
        CHECK.due("most for nothing", law.eyesBest(0, 0, 1), 2);
        law.decrees(1, 2, 0);
        law.decrees(2, 1, 4);
        CHECK.due("never free", law.eyesBest(0, 2, 0), -9);
        CHECK.due("never free: most", law.eyesBest(0, 2, 1), -9);
        CHECK.due("eyes stay", law.count(2), 16);
        law.eyes(1);
        CHECK.due("whatever the eyes are", law.eyesBest(0, 1, 0), 3);
        CHECK.due("eyesBest(10, 3, 0)", law.eyesBest(10, 3, 0), -1);
        CHECK.due("eyesBest(-1, 0, 0)", law.eyesBest(-1, 0, 0), -1);
        CHECK.due("eyesBest(0, 3, 0)", law.eyesBest(0, 3, 0), -2);
        CHECK.due("eyesBest(0, -1, 0)", law.eyesBest(0, -1, 0), -2);
        CHECK.due("eyesBest(0, 0, 2)", law.eyesBest(0, 0, 2), -2);
        CHECK.due("eyesBest(0, 0, -1)", law.eyesBest(0, 0, -1), -2);
    }

    private static void ranked() {
        LawFromTheTree law = Check.told("c055;tt100;th106;tb007;vt15;vh29;vb23;");
        // The tree and the bird (top 6) are seen from all, the horse behind the hill from 6 on.
        CHECK.due("free, the bird above all", law.ranked(2, 0), 4);
        CHECK.due("free from all", law.ranked(2, 1), 10);
        CHECK.due("guilty, the tree above all", law.ranked(1, 0), 0);
        CHECK.due("guilty from all", law.ranked(1, 1), 10);
        CHECK.due("nothing: none makes it", law.ranked(0, 1), 0);
        CHECK.due("nothing: the least", law.ranked(0, 0), 0);
        law.hides(2);
        CHECK.due("free, the least of several", law.ranked(2, 0), 1);
        CHECK.due("free from 6 on", law.ranked(2, 1), 4);
        law.decrees(0, 1, 9);
        CHECK.due("10 is above 9", law.ranked(2, 0), 2);
        CHECK.due("ranks stay", law.code(2, 1), 9);
        CHECK.due("ranked(3, 0)", law.ranked(3, 0), -2);
        CHECK.due("ranked(-1, 0)", law.ranked(-1, 0), -2);
        CHECK.due("ranked(0, 2)", law.ranked(0, 2), -2);
        CHECK.due("ranked(0, -1)", law.ranked(0, -1), -2);
    }

    private static void window() {
        LawFromTheTree law = Check.told("c055;tt100;th106;tb007;vt15;vh29;vb23;");
        CHECK.due("longest", law.window(0), 6);
        CHECK.due("lowest", law.window(1), 0);
        CHECK.due("highest: the bird", law.window(2), 2);
        CHECK.due("no two in one cell", law.window(3), 0);
        CHECK.due("none lost", law.window(4), 0);
        law.heaps(5, 3);
        CHECK.due("longest above", law.window(0), 6);
        CHECK.due("lowest above", law.window(1), 4);
        law.heaps(5, 4);
        CHECK.due("the first of two runs of 5", law.window(1), 0);
        CHECK.due("a run of 5", law.window(0), 5);
        law.hides(2);
        CHECK.due("highest, hidden or not", law.window(2), 2);
        CHECK.due("lost: the hidden", law.window(4), 0b100);
        law.drives(0, 7);
        law.drives(1, 7);
        CHECK.due("three twos in one cell", law.window(3), 3);
        law.turn(2, 0, 1);
        CHECK.due("highest, the least of several", law.window(2), 0);
        law.eyes(7);
        CHECK.due("lost: too far", law.window(4), 0b111);
        CHECK.due("window(5)", law.window(5), -2);
        CHECK.due("window(-1)", law.window(-1), -2);
        LawFromTheTree flat = Check.told("tt000;tt000;tt001;tt001;");
        CHECK.due("highest of top 0", flat.window(2), 0);
        CHECK.due("two twos", flat.window(3), 2);
        CHECK.due("all lost", flat.window(4), 0b1111);
    }

    private static void two() {
        // Cell 5 hides what is behind it from all branches.
        LawFromTheTree law = Check.told("c059;th105;tt105;vh13;vt22;");
        // The first's horse goes out of sight if driven, the second's tree too: both stay.
        CHECK.due("both stay", law.two(0, 1, 0), 0);
        law.drives(0, 4);
        // Behind 1 hour the horse is in 5, driven in 6: it stays; the tree is behind in rank.
        CHECK.due("both stay, whichever the second's", law.two(0, 1, 1), 0);
        // Behind 2 hours the horse is gone either way; the tree is seen if it stays.
        CHECK.due("the second has it", law.two(0, 1, 2), 0);
        law.drives(1, 15);
        // The tree is hidden at 15, driven round to 0 it's seen; the horse of 4 is gone behind 2.
        CHECK.due("the second drives round", law.two(0, 1, 2), 1);
        law.drives(0, 15);
        // Each comes in sight if driven round: by rank guilty goes before free.
        CHECK.due("the horse decides: the first drives", law.two(0, 1, 0), 10);
        law.decrees(2, 1, 0);
        CHECK.due("the tree decides: the second drives", law.two(0, 1, 0), 1);
        CHECK.due("nothing was driven", law.thing(0, 2), 15);
        CHECK.due("two(0, 0, -1)", law.two(0, 0, -1), -1);
        CHECK.due("two(2, 0, 0)", law.two(2, 0, 0), -1);
        CHECK.due("two(0, 2, 0)", law.two(0, 2, 0), -1);
        CHECK.due("two(-1, 0, 0)", law.two(-1, 0, 0), -1);
        CHECK.due("two(0, 1, -1)", law.two(0, 1, -1), -4);
        CHECK.due("two(0, 1, 31)", law.two(0, 1, 31), -6);
        twoBehindThirtyHours();
    }

    private static void twoBehindThirtyHours() {
        // Cell 1 hides what is behind it from all branches; behind 30 hours a horse is 2 cells back.
        LawFromTheTree law = Check.told("c019;th003;tt101;vh13;vt22;");
        CHECK.due("in 1, driven in 2", law.two(0, 1, 30), 0);
        law.drives(0, 2);
        CHECK.due("seen either way", law.two(0, 1, 30), 0);
        law.drives(0, 4);
        CHECK.due("never seen: the tree stays in sight", law.two(0, 1, 30), 0);
        law.drives(1, 15);
        CHECK.due("never seen: the tree comes in sight", law.two(0, 1, 30), 1);
        law.drives(0, 1);
        CHECK.due("in 15, driven in 0", law.two(0, 1, 30), 10);
        law.decrees(2, 1, 1);
        CHECK.due("both come in sight, the tree decides", law.two(0, 1, 30), 1);
        // The guilty thing is the second's to drive, the free one the first's: each hides his own.
        LawFromTheTree crossed = Check.told("c019;tt101;th001;vh13;vt22;");
        CHECK.due("each out of sight", crossed.two(0, 1, 0), 11);
    }
}
