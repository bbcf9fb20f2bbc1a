import java.util.Set;
import java.util.TreeSet;
import java.util.regex.Matcher;
import java.util.regex.Pattern;

/**
 * Every call with every choice of arguments at, just outside of and far outside of what each may be: the
 * first refusal that fits, in the order in which the promise tells them, is answered and counted, nothing
 * else changes, and a call to which none fits is not refused.
 */
public final class RefusalOrderTest {
    private static final Check CHECK = new Check("RefusalOrderTest");

    /*
     * The refusals of each promise in its own order, the arguments named a, b, c ..; of seven things and at
     * an hour from which 60 go by. Behind a number stand all wrongs that it tells of.
     */
    private static final String[] ORDERS = {
        "letter: -4 a<0; -6 a>255",
        "thing: -1 a<0 a>6; -2 b<0 b>5",
        "height: -1 a<0 a>15",
        "code: -2 a<0 a>5 b<0 b>1",
        "heaps: -1 a<0 a>15; -4 b<0; -6 b>9",
        "drives: -1 a<0 a>6 b<0 b>15",
        "hides: -1 a<0 a>6",
        "decrees: -2 a<0 a>5 b<0 b>2; -4 c<0; -6 c>9",
        "eyes: -4 a<0; -6 a>16",
        "turn: -1 a<0 a>6; -2 b<0 b>5; -4 c<0; -6 c>9",
        "hours: -4 a<1; -6 a>60",
        "seen: -1 a<0 a>9; -2 b<0 b>4",
        "thingThen: -1 a<0 a>6; -4 b<0; -6 b>60",
        "seenThen: -1 a<0 a>9; -4 b<0; -6 b>60; -2 c<0 c>1",
        "falls: -1 a<0 a>9; -2 b<0 b>2",
        "sight: -1 a<0 a>9 b<0 b>6; -2 c<0 c>1",
        "appeal: -1 a<0 a>9",
        "branches: -2 a<0 a>2",
        "best: -2 a<0 a>2 c<0 c>1; -4 b<0; -6 b>30",
        "drive: -1 a<0 a>6; -2 b<0 b>2",
        "hill: -1 a<0 a>9; -2 b<0 b>1",
        "hide: -2 a<0 a>2",
        "eyesBest: -1 a<0 a>9; -2 b<0 b>2 c<0 c>1",
        "ranked: -2 a<0 a>2 b<0 b>1",
        "window: -2 a<0 a>4",
        "two: -1 a<0 a>6 b<0 b>6 a=b; -4 c<0; -6 c>30",
        "mist: -1 a<0 a>9; -4 b<0 c<2; -6 b>7 c>20; -2 d<0 d>2 e<0 e>1",
        "mean: -2 a<0 a>1",
        "whereWas: -1 a<0 a>6 b<0 b>9; -2 c<0 c>1",
        "row: -4 a<0; -6 a>99",
        "lots: -4 a<1; -6 a>20; -2 c<0 c>1"
    };

    private static final Pattern WRONG = Pattern.compile("([a-e])([<>=])(\\w+)");

    private final Refusals refusals;
    private final String name;
    private final String order;

    private RefusalOrderTest(Refusals refusals, String line) {
        this.refusals = refusals;
        this.name = line.substring(0, line.indexOf(':'));
        this.order = line.substring(line.indexOf(':') + 1);
    }

    public static void main(String[] args) {
        CHECK.sentence("REFUSALS (the call answers the number, the first that fits in the order in which it tells "
            + "them; nothing changes but how many there were):");
        Refusals refusals = new Refusals(CHECK, RefusalOrderTest::sample);
        for (String line : ORDERS) {
            new RefusalOrderTest(refusals, line).chooseFrom(0);
        }
        neverRefused(refusals);
        CHECK.end();
    }

    // Seven things, an image, a row, and letters that become a land when more than enough has been asked.
    static LawFromTheTree sample() {
        LawFromTheTree law = Check.told(
            "c023;c056;c151;tt301;ts204;th106;tc207;tb009;tw015;th500;vt15;vh27;vb24;e14;x1;h03;");
        law.image();
        law.hours(5);
        law.heaps(3, 2);
        law.hides(6);
        for (int number : new int[] {1, 1, 2}) {
            law.row(number);
        }
        for (char c : "e07;".toCharArray()) {
            law.letter(c);
        }
        return law;
    }

    private static void neverRefused(Refusals refusals) {
        for (String name : new String[] {"land", "agree", "judge", "clear", "image", "on"}) {
            refusals.answered(name);
        }
        for (int what : new int[] {Integer.MIN_VALUE, -1, 0, 7, 8, 10, 11, 16, 17, Integer.MAX_VALUE}) {
            refusals.answered("count", what);
        }
    }

    private int[] arguments;

    private void chooseFrom(int place) {
        if (place == 0) {
            arguments = new int[Face.ARGUMENTS[Face.indexOf(name)].length];
        }
        if (place == arguments.length) {
            ask();
            return;
        }
        for (int choice : choices((char) ('a' + place))) {
            arguments[place] = choice;
            chooseFrom(place + 1);
        }
    }

    private Set<Integer> choices(char argument) {
        Set<Integer> choices = new TreeSet<>();
        choices.add(Integer.MIN_VALUE);
        choices.add(Integer.MAX_VALUE);
        Matcher wrong = WRONG.matcher(order);
        while (wrong.find()) {
            if (wrong.group(1).charAt(0) == argument && !wrong.group(2).equals("=")) {
                int limit = Integer.parseInt(wrong.group(3));
                choices.add(limit);
                choices.add(wrong.group(2).equals("<") ? limit - 1 : limit + 1);
            }
        }
        return choices;
    }

    private void ask() {
        for (String told : order.split(";")) {
            String[] numberAndWrongs = told.trim().split(" ", 2);
            if (fits(numberAndWrongs[1])) {
                refusals.refused(Integer.parseInt(numberAndWrongs[0]), name, arguments);
                return;
            }
        }
        refusals.answered(name, arguments);
    }

    private boolean fits(String wrongs) {
        Matcher wrong = WRONG.matcher(wrongs);
        while (wrong.find()) {
            int argument = arguments[wrong.group(1).charAt(0) - 'a'];
            boolean isSo;
            switch (wrong.group(2)) {
                case "<":
                    isSo = argument < Integer.parseInt(wrong.group(3));
                    break;
                case ">":
                    isSo = argument > Integer.parseInt(wrong.group(3));
                    break;
                default:
                    isSo = argument == arguments[wrong.group(3).charAt(0) - 'a'];
            }
            if (isSo) {
                return true;
            }
        }
        return false;
    }
}
