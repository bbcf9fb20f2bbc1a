/** The methods of the class by number, with what each argument may be. */
final class Face {
    /** Ranges of arguments: BRANCH and the like have their own bounds, others are told as least and greatest. */
    static final int[] BRANCH = {0, 9};
    static final int[] THING = {0, 6};
    static final int[] CELL = {0, 15};
    static final int[] KIND = {0, 5};
    static final int[] VERDICT = {0, 2};
    static final int[] EITHER = {0, 1};
    static final int[] ANY = {Integer.MIN_VALUE, Integer.MAX_VALUE};

    static final String[] NAMES = {
        "letter", "land", "thing", "height", "code", "heaps", "drives", "hides", "decrees", "eyes",
        "turn", "hours", "seen", "thingThen", "seenThen", "falls", "sight", "agree", "appeal", "branches",
        "best", "drive", "hill", "hide", "eyesBest", "ranked", "window", "two", "mist", "mean",
        "whereWas", "row", "judge", "clear", "lots", "image", "on", "count"
    };

    static final int[][][] ARGUMENTS = {
        {{0, 255}}, {}, {THING, {0, 5}}, {CELL}, {KIND, EITHER}, {CELL, {0, 9}}, {THING, CELL}, {THING},
        {KIND, VERDICT, {0, 9}}, {{0, 16}},
        {THING, KIND, {0, 9}}, {{1, 60}}, {BRANCH, {0, 4}}, {THING, {0, 60}}, {BRANCH, {0, 60}, EITHER},
        {BRANCH, VERDICT}, {BRANCH, THING, EITHER}, {}, {BRANCH}, {VERDICT},
        {VERDICT, {0, 30}, EITHER}, {THING, VERDICT}, {BRANCH, EITHER}, {VERDICT}, {BRANCH, VERDICT, EITHER},
        {VERDICT, EITHER}, {{0, 4}}, {THING, THING, {0, 30}}, {BRANCH, {0, 7}, {2, 20}, VERDICT, EITHER}, {EITHER},
        {THING, BRANCH, EITHER}, {{0, 99}}, {}, {}, {{1, 20}, ANY, EITHER}, {}, {}, {{0, 17}}
    };

    private Face() {
    }

    static int indexOf(String name) {
        for (int i = 0; i < NAMES.length; i++) {
            if (NAMES[i].equals(name)) {
                return i;
            }
        }
        throw new IllegalArgumentException(name);
    }

    static long call(LawFromTheTree law, int method, int... a) {
        switch (NAMES[method]) {
            case "letter": return law.letter(a[0]);
            case "land": return law.land();
            case "thing": return law.thing(a[0], a[1]);
            case "height": return law.height(a[0]);
            case "code": return law.code(a[0], a[1]);
            case "heaps": return law.heaps(a[0], a[1]);
            case "drives": return law.drives(a[0], a[1]);
            case "hides": return law.hides(a[0]);
            case "decrees": return law.decrees(a[0], a[1], a[2]);
            case "eyes": return law.eyes(a[0]);
            case "turn": return law.turn(a[0], a[1], a[2]);
            case "hours": return law.hours(a[0]);
            case "seen": return law.seen(a[0], a[1]);
            case "thingThen": return law.thingThen(a[0], a[1]);
            case "seenThen": return law.seenThen(a[0], a[1], a[2]);
            case "falls": return law.falls(a[0], a[1]);
            case "sight": return law.sight(a[0], a[1], a[2]);
            case "agree": return law.agree();
            case "appeal": return law.appeal(a[0]);
            case "branches": return law.branches(a[0]);
            case "best": return law.best(a[0], a[1], a[2]);
            case "drive": return law.drive(a[0], a[1]);
            case "hill": return law.hill(a[0], a[1]);
            case "hide": return law.hide(a[0]);
            case "eyesBest": return law.eyesBest(a[0], a[1], a[2]);
            case "ranked": return law.ranked(a[0], a[1]);
            case "window": return law.window(a[0]);
            case "two": return law.two(a[0], a[1], a[2]);
            case "mist": return law.mist(a[0], a[1], a[2], a[3], a[4]);
            case "mean": return law.mean(a[0]);
            case "whereWas": return law.whereWas(a[0], a[1], a[2]);
            case "row": return law.row(a[0]);
            case "judge": return law.judge();
            case "clear": return law.clear();
            case "lots": return law.lots(a[0], a[1], a[2]);
            case "image": return law.image();
            case "on": return law.on();
            case "count": return law.count(a[0]);
            default: throw new IllegalArgumentException(NAMES[method]);
        }
    }
}
