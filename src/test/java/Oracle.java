import java.math.BigInteger;
import java.util.ArrayList;
import java.util.List;
import java.util.regex.Matcher;
import java.util.regex.Pattern;

/**
 * The document once more, as slow and as near to its words as can be, to compare with: kinds are
 * classes one under another, every cell ahead is looked at, every outcome of the mist is gone through.
 */
final class Oracle {
    private static final Pattern LAND = Pattern.compile(
        "(?:c[0-9]{3};|t[tshcbw][0-9]{3};|v[tshcbw][0-9]{2};|e[0-9]{2};|x[0-9];|d[0-9]{3};|h[0-9]{2};)+");
    private static final String KINDS = "tshcbw";

    static class TreeKind {
        int goes(int figure, int hour) {
            return 0;
        }

        int high(int figure, int hour) {
            return figure;
        }
    }

    static class Smoke extends TreeKind {
        @Override
        int high(int figure, int hour) {
            return super.high(figure, hour) + (hour % 2 == 1 ? 1 : 0);
        }
    }

    static class Horse extends TreeKind {
        @Override
        int goes(int figure, int hour) {
            return 1;
        }

        @Override
        int high(int figure, int hour) {
            return 1;
        }
    }

    static class Cow extends Horse {
        @Override
        int goes(int figure, int hour) {
            return hour % (figure + 2) == 0 ? 1 : 0;
        }
    }

    static class Bird extends Horse {
        @Override
        int goes(int figure, int hour) {
            return 2 * super.goes(figure, hour);
        }

        @Override
        int high(int figure, int hour) {
            return super.high(figure, hour) + 5;
        }
    }

    static class Washing extends Cow {
        @Override
        int goes(int figure, int hour) {
            return 0;
        }

        @Override
        int high(int figure, int hour) {
            return hour % 2 == 0 ? 2 : 0;
        }
    }

    private static final TreeKind[] HOW = {
        new TreeKind(), new Smoke(), new Horse(), new Cow(), new Bird(), new Washing()
    };

    static final class Thing {
        int kind;
        int figure;
        int cell;
        boolean hidden;

        Thing(int kind, int figure, int cell, boolean hidden) {
            this.kind = kind;
            this.figure = figure;
            this.cell = cell;
            this.hidden = hidden;
        }
    }

    static final class World {
        int[] heights = new int[16];
        List<Thing> things = new ArrayList<>();
        int[][] code = new int[6][2];
        int eyes = 16;
        int hour;

        World copy() {
            World w = new World();
            w.heights = heights.clone();
            for (Thing t : things) {
                w.things.add(new Thing(t.kind, t.figure, t.cell, t.hidden));
            }
            for (int k = 0; k < 6; k++) {
                w.code[k] = code[k].clone();
            }
            w.eyes = eyes;
            w.hour = hour;
            return w;
        }

        World on(int hours) {
            World w = copy();
            for (int i = 0; i < hours; i++) {
                w.hour++;
                for (Thing t : w.things) {
                    t.cell = (t.cell + HOW[t.kind].goes(t.figure, w.hour)) % 16;
                }
            }
            return w;
        }

        int top(Thing t) {
            return heights[t.cell] + HOW[t.kind].high(t.figure, hour);
        }

        boolean inSight(int cell, int top, int branch) {
            if (cell + 1 > eyes || top <= 0) {
                return false;
            }
            for (int c = 0; c < cell; c++) {
                if (heights[c] >= branch && heights[c] >= top) {
                    return false;
                }
            }
            return true;
        }

        boolean sees(int branch, Thing t) {
            return !t.hidden && inSight(t.cell, top(t), branch);
        }

        int seen(int branch) {
            int bits = 0;
            for (int i = 0; i < things.size(); i++) {
                bits += sees(branch, things.get(i)) ? 1 << i : 0;
            }
            return bits;
        }

        int decides(int branch) {
            for (int rank = 10; rank >= 0; rank--) {
                for (int i = 0; i < things.size(); i++) {
                    int[] says = code[things.get(i).kind];
                    if (says[0] > 0 && says[1] == rank && sees(branch, things.get(i))) {
                        return i;
                    }
                }
            }
            return -9;
        }

        int verdict(int branch) {
            int who = decides(branch);
            return who < 0 ? 0 : code[things.get(who).kind][0];
        }

        int branches(int verdict) {
            int bits = 0;
            for (int b = 0; b < 10; b++) {
                bits += verdict(b) == verdict ? 1 << b : 0;
            }
            return bits;
        }

        int many(int verdict) {
            return Integer.bitCount(branches(verdict));
        }
    }

    private World w = new World();
    private World kept;
    private final StringBuilder letters = new StringBuilder();
    private final List<Integer> row = new ArrayList<>();
    private final int[] refusals = new int[7];

    private int no(int number) {
        refusals[-number]++;
        return number;
    }

    private static boolean in(int v, int least, int most) {
        return v >= least && v <= most;
    }

    private boolean isThing(int t) {
        return in(t, 0, w.things.size() - 1);
    }

    /** The refusal that is due, or 0. */
    private int refusal(String name, int[] a) {
        switch (name) {
            case "letter": return a[0] < 0 ? -4 : a[0] > 255 || letters.length() == 96 ? -6 : 0;
            case "thing": return !isThing(a[0]) ? -1 : !in(a[1], 0, 5) ? -2 : 0;
            case "height": return in(a[0], 0, 15) ? 0 : -1;
            case "code": return in(a[0], 0, 5) && in(a[1], 0, 1) ? 0 : -2;
            case "heaps": return !in(a[0], 0, 15) ? -1 : number(a[1], 0, 9);
            case "drives": return isThing(a[0]) && in(a[1], 0, 15) ? 0 : -1;
            case "hides": return isThing(a[0]) ? 0 : -1;
            case "decrees": return in(a[0], 0, 5) && in(a[1], 0, 2) ? number(a[2], 0, 9) : -2;
            case "eyes": return number(a[0], 0, 16);
            case "turn": return !isThing(a[0]) ? -1 : !in(a[1], 0, 5) ? -2 : number(a[2], 0, 9);
            case "hours": return number(a[0], 1, Math.min(60, 999 - w.hour));
            case "seen": return !in(a[0], 0, 9) ? -1 : !in(a[1], 0, 4) ? -2 : 0;
            case "thingThen": return !isThing(a[0]) ? -1 : number(a[1], 0, 60);
            case "seenThen":
                return !in(a[0], 0, 9) ? -1 : number(a[1], 0, 60) != 0 ? number(a[1], 0, 60) : in(a[2], 0, 1) ? 0 : -2;
            case "falls": return !in(a[0], 0, 9) ? -1 : in(a[1], 0, 2) ? 0 : -2;
            case "sight": return !in(a[0], 0, 9) || !isThing(a[1]) ? -1 : in(a[2], 0, 1) ? 0 : -2;
            case "appeal": return in(a[0], 0, 9) ? 0 : -1;
            case "branches":
            case "hide": return in(a[0], 0, 2) ? 0 : -2;
            case "best": return in(a[0], 0, 2) && in(a[2], 0, 1) ? number(a[1], 0, 30) : -2;
            case "drive": return !isThing(a[0]) ? -1 : in(a[1], 0, 2) ? 0 : -2;
            case "hill": return !in(a[0], 0, 9) ? -1 : in(a[1], 0, 1) ? 0 : -2;
            case "eyesBest": return !in(a[0], 0, 9) ? -1 : in(a[1], 0, 2) && in(a[2], 0, 1) ? 0 : -2;
            case "ranked": return in(a[0], 0, 2) && in(a[1], 0, 1) ? 0 : -2;
            case "window": return in(a[0], 0, 4) ? 0 : -2;
            case "two": return !isThing(a[0]) || !isThing(a[1]) || a[0] == a[1] ? -1 : number(a[2], 0, 30);
            case "mist":
                return !in(a[0], 0, 9) ? -1 : a[1] < 0 || a[2] < 2 ? -4 : a[1] > 7 || a[2] > 20 ? -6
                    : in(a[3], 0, 2) && in(a[4], 0, 1) ? 0 : -2;
            case "mean": return in(a[0], 0, 1) ? 0 : -2;
            case "whereWas": return !isThing(a[0]) || !in(a[1], 0, 9) ? -1 : in(a[2], 0, 1) ? 0 : -2;
            case "row": return a[0] < 0 ? -4 : a[0] > 99 || row.size() == 16 ? -6 : 0;
            case "lots": return number(a[0], 1, 20) != 0 ? number(a[0], 1, 20) : in(a[2], 0, 1) ? 0 : -2;
            case "on": return kept == null ? -3 : 0;
            default: return 0;
        }
    }

    private static int number(int v, int least, int most) {
        return v < least ? -4 : v > most ? -6 : 0;
    }

    long call(int method, int... a) {
        String name = Face.NAMES[method];
        int refused = refusal(name, a);
        if (refused != 0) {
            no(refused);
            return name.equals("mist") || name.equals("mean") ? 4000000000000000000L - refused : refused;
        }
        return method < 14 ? change(name, a) : method < 28 ? question(name, a) : rest(name, a);
    }

    private int change(String name, int[] a) {
        Thing t = name.matches("thing|drives|hides|turn|thingThen") ? w.things.get(a[0]) : null;
        int was;
        switch (name) {
            case "letter":
                letters.append((char) a[0]);
                return letters.length();
            case "land":
                return land();
            case "thing":
                return new int[] {t.kind, t.figure, t.cell, t.hidden ? 1 : 0, w.top(t),
                    HOW[t.kind].goes(t.figure, w.hour + 1)}[a[1]];
            case "height":
                return w.heights[a[0]];
            case "code":
                return w.code[a[0]][a[1]];
            case "heaps":
                was = w.heights[a[0]];
                w.heights[a[0]] = a[1];
                return was;
            case "drives":
                was = t.cell;
                t.cell = a[1];
                return was;
            case "hides":
                t.hidden = !t.hidden;
                return t.hidden ? 1 : 0;
            case "decrees":
                was = 10 * w.code[a[0]][0] + w.code[a[0]][1];
                w.code[a[0]] = new int[] {a[1], a[2]};
                return was;
            case "eyes":
                was = w.eyes;
                w.eyes = a[0];
                return was;
            case "turn":
                was = 10 * t.kind + t.figure;
                t.kind = a[1];
                t.figure = a[2];
                return was;
            case "hours":
                w = w.on(a[0]);
                return w.hour;
            case "seen":
                return seen(a[0], a[1]);
            case "thingThen":
                return w.on(a[1]).things.get(a[0]).cell;
            default:
                throw new IllegalArgumentException(name);
        }
    }

    private int land() {
        String text = letters.toString();
        letters.setLength(0);
        for (int place = 0; place < text.length(); place++) {
            Matcher m = LAND.matcher(text.substring(0, place + 1));
            if (!m.matches() && !m.hitEnd()) {
                return -1000 - place;
            }
        }
        if (!LAND.matcher(text).matches()) {
            return -1000 - text.length();
        }
        World told = w.copy();
        int place = 0;
        String[] statements = text.split(";");
        for (String s : statements) {
            told = statement(told, s);
            if (told == null) {
                return -2000 - place;
            }
            place += s.length() + 1;
        }
        w = told;
        return statements.length;
    }

    /** The world behind a statement, or null if it is not as it must be. */
    private static World statement(World told, String s) {
        String digits = s.replaceAll("[^0-9]", "");
        int all = Integer.parseInt(digits);
        int kind = KINDS.indexOf(s.charAt(1));
        switch (s.charAt(0)) {
            case 'c':
                if (all / 10 > 15) {
                    return null;
                }
                told.heights[all / 10] = all % 10;
                return told;
            case 't':
                if (told.things.size() == 7 || all % 100 > 15) {
                    return null;
                }
                told.things.add(new Thing(kind, all / 100, all % 100, false));
                return told;
            case 'v':
                told.code[kind] = new int[] {all / 10, all % 10};
                return all / 10 > 2 ? null : told;
            case 'e':
                told.eyes = all;
                return all > 16 ? null : told;
            case 'x':
                if (all >= told.things.size()) {
                    return null;
                }
                told.things.get(all).hidden ^= true;
                return told;
            case 'd':
                if (all / 100 >= told.things.size() || all % 100 > 15) {
                    return null;
                }
                told.things.get(all / 100).cell = all % 100;
                return told;
            default:
                return all < 1 || all > 60 || told.hour + all > 999 ? null : told.on(all);
        }
    }

    private int seen(int branch, int what) {
        switch (what) {
            case 0:
                return w.seen(branch);
            case 1:
                return w.verdict(branch);
            case 2:
                return w.decides(branch);
            case 3:
                for (int cell = 15; cell >= 0; cell--) {
                    for (int i = 0; i < w.things.size(); i++) {
                        if (w.things.get(i).cell == cell && w.sees(branch, w.things.get(i))) {
                            return i;
                        }
                    }
                }
                return -9;
            default:
                int bits = 0;
                for (int cell = 0; cell < 16; cell++) {
                    bits += w.inSight(cell, w.heights[cell] + 1, branch) ? 0 : 1 << cell;
                }
                return bits;
        }
    }

    private int question(String name, int[] a) {
        switch (name) {
            case "seenThen":
                return a[2] == 0 ? w.on(a[1]).seen(a[0]) : w.on(a[1]).verdict(a[0]);
            case "falls":
                for (int n = 0; n <= 60; n++) {
                    if (w.on(n).verdict(a[0]) == a[1]) {
                        return n;
                    }
                }
                return -9;
            case "sight":
                return sight(a[0], a[1], a[2]);
            case "agree":
                for (int n = 0; n <= 60; n++) {
                    World then = w.on(n);
                    if (then.many(then.verdict(5)) == 10) {
                        return n;
                    }
                }
                return -9;
            case "appeal":
                for (int b = a[0] + 1; b < 10; b++) {
                    if (w.verdict(b) != w.verdict(a[0])) {
                        return b;
                    }
                }
                return -9;
            case "branches":
                return w.branches(a[0]);
            case "best":
                return best(a[0], a[1], a[2]);
            case "drive":
                return drive(a[0], a[1]);
            case "hill":
                return hill(a[0], a[1]);
            case "hide":
                return hide(a[0]);
            case "eyesBest":
                return eyesBest(a[0], a[1], a[2]);
            case "ranked":
                return ranked(a[0], a[1]);
            case "window":
                return window(a[0]);
            case "two":
                return two(a[0], a[1], a[2]);
            default:
                throw new IllegalArgumentException(name);
        }
    }

    private int sight(int branch, int thing, int what) {
        List<Integer> when = new ArrayList<>();
        for (int n = 0; n <= 60; n++) {
            World then = w.on(n);
            if (then.sees(branch, then.things.get(thing))) {
                when.add(n);
            }
        }
        return what == 1 ? when.size() : when.isEmpty() ? -9 : when.get(0);
    }

    private int best(int verdict, int n, int what) {
        int[] many = new int[10];
        for (int hour = 0; hour <= n; hour++) {
            World then = w.on(hour);
            for (int b = 0; b < 10; b++) {
                many[b] += then.verdict(b) == verdict ? 1 : 0;
            }
        }
        int branch = firstGreatest(many);
        return what == 0 ? branch : many[branch];
    }

    private static int firstGreatest(int[] many) {
        int first = 0;
        for (int i = 1; i < many.length; i++) {
            first = many[i] > many[first] ? i : first;
        }
        return first;
    }

    private int drive(int thing, int verdict) {
        int[] many = new int[16];
        for (int cell = 0; cell < 16; cell++) {
            World driven = w.copy();
            driven.things.get(thing).cell = cell;
            many[cell] = driven.many(verdict);
        }
        int cell = firstGreatest(many);
        return many[cell] > w.many(verdict) ? cell : -9;
    }

    private int hill(int branch, int what) {
        int sign = what == 0 ? 1 : -1;
        int[] many = new int[16];
        for (int cell = 0; cell < 16; cell++) {
            World heaped = w.copy();
            heaped.heights[cell] = what == 0 ? 0 : 9;
            many[cell] = sign * Integer.bitCount(heaped.seen(branch));
        }
        int cell = firstGreatest(many);
        return many[cell] > sign * Integer.bitCount(w.seen(branch)) ? cell : -9;
    }

    private int hide(int verdict) {
        for (int size = 0; size <= w.things.size(); size++) {
            for (int bits = 0; bits < 1 << w.things.size(); bits++) {
                if (Integer.bitCount(bits) == size && !hidesOneTwice(bits)) {
                    World hidden = w.copy();
                    for (int i = 0; i < w.things.size(); i++) {
                        hidden.things.get(i).hidden |= (bits >> i & 1) == 1;
                    }
                    if (hidden.many(verdict) == 10) {
                        return bits;
                    }
                }
            }
        }
        return -9;
    }

    private boolean hidesOneTwice(int bits) {
        for (int i = 0; i < w.things.size(); i++) {
            if ((bits >> i & 1) == 1 && w.things.get(i).hidden) {
                return true;
            }
        }
        return false;
    }

    private int eyesBest(int branch, int verdict, int what) {
        for (int i = 0; i <= 16; i++) {
            World looked = w.copy();
            looked.eyes = what == 0 ? i : 16 - i;
            if (looked.verdict(branch) == verdict) {
                return looked.eyes;
            }
        }
        return -9;
    }

    private int ranked(int verdict, int what) {
        int[] many = new int[6];
        for (int kind = 0; kind < 6; kind++) {
            World decreed = w.copy();
            decreed.code[kind][1] = 10;
            many[kind] = decreed.many(verdict);
        }
        int kind = firstGreatest(many);
        return what == 0 ? kind : many[kind];
    }

    private int window(int what) {
        int size = w.things.size();
        if (what < 2) {
            int[] run = new int[10];
            for (int low = 0; low < 10; low++) {
                while (low + run[low] < 10 && w.verdict(low + run[low]) == w.verdict(low)) {
                    run[low]++;
                }
            }
            int low = firstGreatest(run);
            return what == 0 ? run[low] : low;
        }
        if (what == 2) {
            int[] tops = new int[size];
            for (int i = 0; i < size; i++) {
                tops[i] = w.top(w.things.get(i));
            }
            return size == 0 ? -9 : firstGreatest(tops);
        }
        int answer = 0;
        for (int i = 0; i < size; i++) {
            boolean lost = true;
            for (int b = 0; b < 10; b++) {
                lost &= !w.sees(b, w.things.get(i));
            }
            answer += what == 4 && lost ? 1 << i : 0;
            for (int j = 0; j < i; j++) {
                answer += what == 3 && w.things.get(i).cell == w.things.get(j).cell ? 1 : 0;
            }
        }
        return answer;
    }

    private int two(int a, int b, int n) {
        int[][] firsts = new int[2][2];
        int[][] seconds = new int[2][2];
        for (int i = 0; i < 4; i++) {
            World driven = w.copy();
            driven.things.get(a).cell = (driven.things.get(a).cell + i / 2) % 16;
            driven.things.get(b).cell = (driven.things.get(b).cell + i % 2) % 16;
            World then = driven.on(n);
            firsts[i / 2][i % 2] = then.many(1) - then.many(2);
            seconds[i / 2][i % 2] = then.many(2) - then.many(1);
        }
        for (int i = 0; i < 4; i++) {
            int f = i / 2;
            int s = i % 2;
            if (firsts[f][s] >= firsts[1 - f][s] && seconds[f][s] >= seconds[f][1 - s]) {
                return 10 * f + s;
            }
        }
        return -9;
    }

    private long rest(String name, int[] a) {
        switch (name) {
            case "mist":
                return mist(a[0], a[1], a[2], a[3], a[4]);
            case "mean":
                int sum = 0;
                for (int height : w.heights) {
                    sum += height;
                }
                return part(BigInteger.valueOf(sum), BigInteger.valueOf(16), a[0]);
            case "whereWas":
                return whereWas(a[0], a[1], a[2]);
            case "row":
                row.add(a[0]);
                return row.size();
            case "judge":
                long first = -9;
                for (int i = row.size() - 1; i >= 0; i--) {
                    first = row.get(i) == w.heights[i] ? first : i;
                }
                row.clear();
                return first;
            case "clear":
                int had = row.size();
                row.clear();
                return had;
            case "lots":
                return lots(a[0], a[1], a[2]);
            case "image":
                kept = w.copy();
                return w.hour;
            case "on":
                w = kept.copy();
                return w.hour;
            default:
                return count(a[0]);
        }
    }

    private long mist(int branch, int n, int t, int verdict, int part) {
        BigInteger above = BigInteger.ZERO;
        for (int outcome = 0; outcome < 1 << n; outcome++) {
            World then = w.on(n);
            BigInteger ways = BigInteger.ONE;
            for (int i = 0; i < n; i++) {
                boolean mists = (outcome >> i & 1) == 1;
                then.eyes = mists ? Math.max(0, then.eyes - 3) : then.eyes;
                ways = ways.multiply(BigInteger.valueOf(mists ? 1 : t - 1));
            }
            above = then.verdict(branch) == verdict ? above.add(ways) : above;
        }
        return part(above, BigInteger.valueOf(t).pow(n), part);
    }

    private static long part(BigInteger above, BigInteger below, int part) {
        return (part == 0 ? above : below).divide(above.gcd(below)).longValueExact();
    }

    private int whereWas(int thing, int branch, int what) {
        int bits = 0;
        for (int candidate = 0; candidate < (what == 0 ? 16 : 6); candidate++) {
            World could = w.copy();
            if (what == 0) {
                could.things.get(thing).cell = candidate;
            } else {
                could.things.get(thing).kind = candidate;
            }
            boolean so = true;
            for (int n = 0; n < row.size(); n++) {
                so &= could.on(n).verdict(branch) == row.get(n);
            }
            bits += so ? 1 << candidate : 0;
        }
        return bits;
    }

    private int lots(int n, int seed, int what) {
        int[] z = {seed};
        int answer = 0;
        for (int i = 0; i < n; i++) {
            World term = w.copy();
            for (Thing t : term.things) {
                t.cell = draw(z, 16);
            }
            int branch = draw(z, 10);
            answer += what == 1 ? Integer.bitCount(term.seen(branch)) : term.verdict(branch) == 1 ? 1 : 0;
        }
        return answer;
    }

    private static int draw(int[] z, int m) {
        long next = z[0] * 1664525L + 1013904223L;
        z[0] = (int) next;
        return (int) ((next & 0x7fffffffL) / 256 % m);
    }

    private int count(int what) {
        int hidden = 0;
        int heights = 0;
        int ranks = 0;
        for (int i = 0; i < w.things.size(); i++) {
            hidden += w.things.get(i).hidden ? 1 << i : 0;
        }
        for (int height : w.heights) {
            heights += height;
        }
        for (int[] says : w.code) {
            ranks += says[1];
        }
        int[] first = {w.things.size(), w.hour, w.eyes, hidden, heights, ranks, row.size(), letters.length()};
        return in(what, 0, 7) ? first[what] : in(what, 11, 16) ? refusals[what - 10] : -9;
    }
}
