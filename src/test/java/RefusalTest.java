import java.util.ArrayList;
import java.util.Arrays;
import java.util.List;

/**
 * Every refusal of every promise, two wrongs at once in the order in which the promise tells them,
 * and that nothing changes by it but how many refusals of that number there were.
 */
public final class RefusalTest {
    private static final Check CHECK = new Check("RefusalTest");
    private static final long REFUSED = 4000000000000000000L;
    private static final int LEAST = Integer.MIN_VALUE;
    private static final int MOST = Integer.MAX_VALUE;

    public static void main(String[] args) {
        landMethods();
        sightMethods();
        searchMethods();
        longMethods();
        withoutThings();
        onWithoutImage();
        CHECK.end();
    }

    // Two things: 0 and 1.
    private static LawFromTheTree sample() {
        LawFromTheTree law = Check.told("c023;c056;ts301;th204;vs15;vh27;e14;x1;h03;");
        law.row(7);
        law.letter('q');
        law.image();
        law.hours(1);
        return law;
    }

    private static void landMethods() {
        for (int bad : new int[] {LEAST, -1}) {
            refused(-4, "letter", bad);
            refused(-4, "eyes", bad);
            refused(-4, "hours", bad);
            refused(-4, "row", bad);
            refused(-4, "lots", bad, 0, 0);
            refused(-1, "height", bad);
            refused(-1, "hides", bad);
            refused(-1, "thing", bad, 9);
            refused(-1, "heaps", bad, 99);
            refused(-1, "drives", bad, 3);
            refused(-1, "drives", 0, bad);
            refused(-1, "turn", bad, 9, 99);
            refused(-2, "code", bad, 0);
            refused(-2, "code", 0, bad);
            refused(-2, "decrees", bad, 0, 99);
            refused(-2, "decrees", 0, bad, -1);
            refused(-2, "thing", 1, bad);
            refused(-2, "turn", 1, bad, -1);
            refused(-4, "heaps", 0, bad);
            refused(-4, "decrees", 0, 0, bad);
            refused(-4, "turn", 0, 0, bad);
        }
        refused(-4, "hours", 0);
        refused(-1, "height", 16);
        refused(-1, "hides", 2);
        refused(-1, "thing", 2, -1);
        refused(-2, "thing", 0, 6);
        refused(-1, "heaps", 16, -1);
        refused(-1, "drives", 2, 0);
        refused(-1, "drives", 1, 16);
        refused(-1, "turn", 2, 6, 10);
        refused(-2, "turn", 1, 6, 10);
        refused(-2, "code", 6, 0);
        refused(-2, "code", 5, 2);
        refused(-2, "decrees", 6, 2, 9);
        refused(-2, "decrees", 5, 3, 10);
        for (int over : new int[] {MOST, 1000}) {
            refused(-6, "letter", over);
            refused(-6, "eyes", over);
            refused(-6, "hours", over);
            refused(-6, "row", over);
            refused(-6, "heaps", 15, over);
            refused(-6, "decrees", 5, 2, over);
            refused(-6, "turn", 1, 5, over);
        }
        refused(-6, "letter", 256);
        refused(-6, "eyes", 17);
        refused(-6, "hours", 61);
        refused(-6, "row", 100);
        refused(-6, "heaps", 15, 10);
        refused(-6, "decrees", 5, 2, 10);
        refused(-6, "turn", 1, 5, 10);
    }

    private static void sightMethods() {
        for (int bad : new int[] {LEAST, -1, 10, MOST}) {
            refused(-1, "seen", bad, 5);
            refused(-1, "seenThen", bad, -1, 2);
            refused(-1, "falls", bad, 3);
            refused(-1, "sight", bad, 0, 2);
            refused(-1, "sight", 0, bad, 2);
            refused(-1, "appeal", bad);
            refused(-1, "thingThen", bad, -1);
            refused(-2, "seen", 0, bad);
            refused(-2, "falls", 0, bad);
            refused(-2, "sight", 0, 0, bad);
            refused(-2, "branches", bad);
            refused(-2, "seenThen", 0, 0, bad);
        }
        refused(-1, "thingThen", 2, 61);
        refused(-1, "sight", 0, 2, 0);
        for (int bad : new int[] {LEAST, -1}) {
            refused(-4, "thingThen", 1, bad);
            refused(-4, "seenThen", 9, bad, 2);
        }
        for (int bad : new int[] {61, MOST}) {
            refused(-6, "thingThen", 1, bad);
            refused(-6, "seenThen", 9, bad, 2);
        }
        refused(-2, "seen", 9, 5);
        refused(-2, "seenThen", 9, 60, 2);
        refused(-2, "falls", 9, 3);
        refused(-2, "sight", 9, 1, 2);
        refused(-2, "branches", 3);
    }

    private static void searchMethods() {
        for (int bad : new int[] {LEAST, -1, 3, MOST}) {
            refused(-2, "best", bad, -1, 0);
            refused(-2, "best", bad, 31, 0);
            refused(-2, "best", 0, -1, bad);
            refused(-2, "best", 0, 31, bad);
            refused(-2, "drive", 0, bad);
            refused(-2, "hill", 0, bad);
            refused(-2, "hide", bad);
            refused(-2, "eyesBest", 0, bad, 0);
            refused(-2, "eyesBest", 0, 0, bad);
            refused(-2, "ranked", bad, 0);
            refused(-2, "ranked", 0, bad);
            refused(-2, "whereWas", 0, 0, bad);
            refused(-2, "lots", 1, 0, bad);
            refused(-4, "lots", 0, 0, bad);
            refused(-6, "lots", 21, 0, bad);
            refused(-1, "two", bad, 0, -1);
            refused(-1, "two", 0, bad, 31);
            refused(-1, "drive", bad, 9);
            refused(-1, "whereWas", bad, 0, 9);
        }
        refused(-2, "window", -1);
        refused(-2, "window", 5);
        refused(-4, "best", 0, -1, 0);
        refused(-6, "best", 0, 31, 1);
        refused(-1, "hill", 10, 2);
        refused(-1, "hill", -1, 0);
        refused(-1, "eyesBest", 10, 3, 2);
        refused(-1, "eyesBest", -1, 0, 0);
        refused(-1, "whereWas", 0, 10, 2);
        refused(-1, "whereWas", 0, -1, 0);
        refused(-1, "two", 0, 0, -1);
        refused(-1, "two", 1, 1, 0);
        refused(-1, "two", 1, 2, 0);
        refused(-1, "drive", 2, 0);
        refused(-4, "two", 0, 1, -1);
        refused(-6, "two", 1, 0, 31);
    }

    private static void longMethods() {
        refused(-1, "mist", 10, -1, 1, 3, 2);
        refused(-1, "mist", -1, 8, 21, 3, 2);
        refused(-4, "mist", 0, -1, 21, 3, 2);
        refused(-4, "mist", 0, 8, 1, 3, 2);
        refused(-4, "mist", 0, LEAST, 2, 0, 0);
        refused(-4, "mist", 0, 0, LEAST, 0, 0);
        refused(-6, "mist", 0, 8, 2, 3, 2);
        refused(-6, "mist", 0, 0, 21, 3, 2);
        refused(-6, "mist", 0, MOST, MOST, 0, 0);
        refused(-2, "mist", 0, 7, 20, 3, 0);
        refused(-2, "mist", 0, 7, 20, 0, 2);
        refused(-2, "mist", 0, 0, 2, -1, 0);
        refused(-2, "mist", 0, 0, 2, 0, -1);
        refused(-2, "mean", 2);
        refused(-2, "mean", -1);
    }

    private static void withoutThings() {
        for (String name : new String[] {"thing", "drives", "hides", "turn", "thingThen", "drive"}) {
            int method = Face.indexOf(name);
            int[] zeros = new int[Face.ARGUMENTS[method].length];
            CHECK.due("no things: " + name, Face.call(new LawFromTheTree(), method, zeros), -1);
        }
        CHECK.due("no things: sight", new LawFromTheTree().sight(0, 0, 0), -1);
        CHECK.due("no things: two", new LawFromTheTree().two(0, 1, 0), -1);
        CHECK.due("no things: whereWas", new LawFromTheTree().whereWas(0, 0, 0), -1);
    }

    private static void onWithoutImage() {
        LawFromTheTree law = Check.told("c023;ts301;");
        List<Long> before = readAll(law);
        CHECK.due("on()", law.on(), -3);
        CHECK.due("on() refused: nothing changes", before.equals(readAll(law)) ? 1 : 0, 1);
        CHECK.due("on() refused: it is counted", law.count(13), 1);
    }

    private static void refused(int number, String name, int... arguments) {
        LawFromTheTree law = sample();
        List<Long> before = readAll(law);
        int method = Face.indexOf(name);
        boolean isLong = name.equals("mist") || name.equals("mean");
        String call = name + Arrays.toString(arguments);
        CHECK.due(call, Face.call(law, method, arguments), isLong ? REFUSED - number : number);
        CHECK.due(call + ": nothing changes", before.equals(readAll(law)) ? 1 : 0, 1);
        for (int other = 1; other <= 6; other++) {
            CHECK.due(call + ": count(" + (10 + other) + ")", law.count(10 + other), other == -number ? 1 : 0);
        }
        law.on();
        CHECK.due(call + ": the image stays", law.count(1), 3);
    }

    private static List<Long> readAll(LawFromTheTree law) {
        List<Long> all = new ArrayList<>();
        for (int what = 0; what <= 7; what++) {
            all.add((long) law.count(what));
        }
        for (int cell = 0; cell < 16; cell++) {
            all.add((long) law.height(cell));
        }
        for (int kind = 0; kind < 6; kind++) {
            all.add((long) law.code(kind, 0));
            all.add((long) law.code(kind, 1));
        }
        for (int thing = 0; thing < law.count(0); thing++) {
            for (int what = 0; what < 6; what++) {
                all.add((long) law.thing(thing, what));
            }
        }
        for (int branch = 0; branch < 10; branch++) {
            all.add((long) law.seen(branch, 0));
            all.add((long) law.seen(branch, 4));
        }
        return all;
    }
}
