import java.util.ArrayList;
import java.util.Arrays;
import java.util.List;
import java.util.Set;
import java.util.function.Supplier;

/** Calls that must be refused, and calls that must not be, with all that must stay as it was. */
final class Refusals {
    static final long OF_LONGS = 4000000000000000000L;

    /** All others only ask. */
    private static final Set<String> CHANGES = Set.of("letter", "land", "heaps", "drives", "hides", "decrees", "eyes", "turn",
        "hours", "row", "judge", "clear", "image", "on");

    private final Check check;
    private final Supplier<LawFromTheTree> made;
    private final List<Long> untouched;

    /** Every call is asked of an object made anew, and compared with one that was not called. */
    Refusals(Check check, Supplier<LawFromTheTree> made) {
        this.check = check;
        this.made = made;
        this.untouched = tellAll(made.get());
    }

    void refused(int number, String name, int... arguments) {
        LawFromTheTree law = made.get();
        int[] before = counts(law);
        String call = name + Arrays.toString(arguments);
        check.due(call, Face.call(law, Face.indexOf(name), arguments), asTold(name, number));
        before[-number]++;
        check.holds(call + " is counted, and nothing else is", Arrays.equals(before, counts(law)));
        check.holds(call + " changes nothing", untouched.equals(tellAll(law)));
    }

    void answered(String name, int... arguments) {
        LawFromTheTree law = made.get();
        int[] before = counts(law);
        long answer = Face.call(law, Face.indexOf(name), arguments);
        String call = name + Arrays.toString(arguments);
        check.holds(call + " is not refused, but answers " + answer, !isRefusal(name, answer));
        check.holds(call + " counts no refusal", Arrays.equals(before, counts(law)));
        if (!CHANGES.contains(name)) {
            check.holds(call + " only asks", untouched.equals(tellAll(law)));
        }
    }

    /** One argument: what is just outside of what it may be, and far outside, is refused, the edges are not. */
    void bounds(int least, int below, int greatest, int above, String name, int place, int... arguments) {
        for (int bad : new int[] {least - 1, Integer.MIN_VALUE}) {
            refused(below, name, with(arguments, place, bad));
        }
        for (int bad : new int[] {greatest + 1, Integer.MAX_VALUE}) {
            refused(above, name, with(arguments, place, bad));
        }
        for (int good : new int[] {least, greatest}) {
            answered(name, with(arguments, place, good));
        }
    }

    private static int[] with(int[] arguments, int place, int argument) {
        int[] changed = arguments.clone();
        changed[place] = argument;
        return changed;
    }

    private static boolean isLong(String name) {
        return name.equals("mist") || name.equals("mean");
    }

    private static long asTold(String name, int number) {
        return isLong(name) ? OF_LONGS - number : number;
    }

    private static boolean isRefusal(String name, long answer) {
        return isLong(name) ? answer < 0 || answer >= OF_LONGS : answer < 0 && answer > -9;
    }

    private static int[] counts(LawFromTheTree law) {
        int[] counts = new int[7];
        for (int number = 1; number <= 6; number++) {
            counts[number] = law.count(10 + number);
        }
        return counts;
    }

    /** What an object tells of itself, of its letters, its row and its image; it is used up by it. */
    static List<Long> tellAll(LawFromTheTree law) {
        List<Long> all = new ArrayList<>();
        for (int what = 0; what <= 7; what++) {
            all.add((long) law.count(what));
        }
        tellNow(law, all);
        all.add((long) law.whereWas(0, 9, 0));
        all.add((long) law.judge());
        all.add((long) law.land());
        all.add((long) law.count(2));
        all.add((long) law.on());
        tellNow(law, all);
        return all;
    }

    private static void tellNow(LawFromTheTree law, List<Long> all) {
        all.add((long) law.count(1));
        for (int cell = 0; cell < 16; cell++) {
            all.add((long) law.height(cell));
        }
        for (int kind = 0; kind < 6; kind++) {
            all.add((long) law.code(kind, 0));
            all.add((long) law.code(kind, 1));
        }
        for (int thing = 0; thing < 7; thing++) {
            for (int what = 0; what < 4; what++) {
                all.add((long) law.thing(thing, what));
            }
        }
        for (int branch = 0; branch < 10; branch++) {
            all.add((long) law.seen(branch, 0));
            all.add((long) law.seen(branch, 4));
        }
    }
}
