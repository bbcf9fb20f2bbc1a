/** Compares answers with those that are due, and tells lands. */
final class Check {
    private final String name;
    private int wrong;
    private int asked;

    Check(String name) {
        this.name = name;
    }

    void due(String call, long got, long want) {
        asked++;
        if (got != want) {
            wrong++;
            System.out.println(name + ": " + call + " answered " + got + ", due is " + want);
        }
    }

    void end() {
        System.out.println(name + ": " + asked + " answers, " + wrong + " not as due");
        if (wrong != 0) {
            System.exit(1);
        }
    }

    static int tell(LawFromTheTree law, String text) {
        for (char c : text.toCharArray()) {
            law.letter(c);
        }
        return law.land();
    }

    /** A new object to which a land has been told, which must be without fault. */
    static LawFromTheTree told(String... texts) {
        LawFromTheTree law = new LawFromTheTree();
        for (String text : texts) {
            int answer = tell(law, text);
            if (answer < 1) {
                System.out.println("the test's own land is wrong: " + text + ": " + answer);
                System.exit(1);
            }
        }
        return law;
    }
}
