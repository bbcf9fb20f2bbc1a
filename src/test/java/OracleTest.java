import java.util.Arrays;
import java.util.Random;

/** Runs of 512 calls, the same on the class and on the oracle; the seeds are told, so each run is always the same. */
public final class OracleTest {
    private static final Check CHECK = new Check("OracleTest");
    private static final int RUNS = 600;
    private static final int CALLS = 512;
    private static final int[] EDGES = {Integer.MIN_VALUE, Integer.MAX_VALUE, -1, 0, 16, 31, 32, 100, 256};

    private final Random random;
    private final LawFromTheTree law = new LawFromTheTree();
    private final Oracle oracle = new Oracle();
    private final int run;
    private int left = CALLS;

    private OracleTest(int run) {
        this.run = run;
        this.random = new Random(run);
    }

    public static void main(String[] args) {
        for (int run = 0; run < RUNS; run++) {
            new OracleTest(run).go();
        }
        CHECK.end();
    }

    private void go() {
        int slips = random.nextInt(4) == 0 ? 8 : 60;
        while (left > 0) {
            int dice = random.nextInt(100);
            if (dice < 6) {
                tellLand(slips);
            } else if (dice < 8) {
                tellVerdicts();
            } else {
                one(random.nextInt(Face.NAMES.length));
            }
        }
    }

    private void one(int method) {
        int[][] ranges = Face.ARGUMENTS[method];
        int[] arguments = new int[ranges.length];
        for (int i = 0; i < ranges.length; i++) {
            arguments[i] = argument(ranges[i]);
        }
        ask(method, arguments);
    }

    private void ask(int method, int... arguments) {
        if (left > 0) {
            left--;
            String call = "run " + run + ", " + left + " left: " + Face.NAMES[method] + Arrays.toString(arguments);
            CHECK.due(call, Face.call(law, method, arguments), oracle.call(method, arguments));
        }
    }

    private int argument(int[] range) {
        if (range == Face.ANY) {
            return random.nextInt();
        }
        if (range == Face.THING && random.nextInt(8) != 0) {
            return random.nextInt(Math.max(1, law.count(0)));
        }
        switch (random.nextInt(40)) {
            case 0:
                return range[0] - 1;
            case 1:
                return range[1] + 1;
            case 2:
                return EDGES[random.nextInt(EDGES.length)];
            case 3:
                return range[0];
            case 4:
                return range[1];
            default:
                return range[0] + random.nextInt(range[1] - range[0] + 1);
        }
    }

    private void tellLand(int slips) {
        StringBuilder text = new StringBuilder();
        int statements = 1 + random.nextInt(12);
        for (int i = 0; i < statements; i++) {
            text.append(statement(slips));
        }
        if (random.nextInt(slips) == 0) {
            text.setLength(random.nextInt(text.length() + 1));
        }
        for (char c : text.toString().toCharArray()) {
            ask(Face.indexOf("letter"), random.nextInt(20 * slips) == 0 ? random.nextInt(128) : c);
        }
        ask(Face.indexOf("land"));
    }

    private String statement(int slips) {
        char kind = "tshcbw".charAt(random.nextInt(6));
        int cell = random.nextInt(random.nextInt(slips) == 0 ? 100 : 16);
        int thing = random.nextInt(random.nextInt(slips) == 0 ? 10 : Math.max(1, law.count(0)));
        switch (random.nextInt(9)) {
            case 0:
            case 1:
                return String.format("c%02d%d;", cell, random.nextInt(10));
            case 2:
            case 3:
                return String.format("t%c%d%02d;", kind, random.nextInt(10), cell);
            case 4:
            case 5:
                return String.format("v%c%d%d;", kind, random.nextInt(random.nextInt(slips) == 0 ? 10 : 3), random.nextInt(10));
            case 6:
                return String.format("e%02d;", random.nextInt(random.nextInt(slips) == 0 ? 100 : 17));
            case 7:
                return random.nextBoolean() ? String.format("x%d;", thing) : String.format("d%d%02d;", thing, cell);
            default:
                return String.format("h%02d;", 1 + random.nextInt(random.nextInt(slips) == 0 ? 99 : 60));
        }
    }

    // A row that some thing could have brought about, else whereWas would hardly ever find one.
    private void tellVerdicts() {
        ask(Face.indexOf("clear"));
        int branch = random.nextInt(10);
        int hours = random.nextInt(17);
        for (int n = 0; n < hours; n++) {
            ask(Face.indexOf("row"), law.seenThen(branch, n, 1));
        }
        for (int thing = 0; thing < law.count(0); thing++) {
            ask(Face.indexOf("whereWas"), thing, branch, random.nextInt(2));
        }
        if (random.nextInt(3) == 0) {
            ask(Face.indexOf("clear"));
            for (int cell = 0; cell < hours; cell++) {
                ask(Face.indexOf("row"), random.nextInt(12) == 0 ? random.nextInt(10) : law.height(cell));
            }
            ask(Face.indexOf("judge"));
        }
    }
}
