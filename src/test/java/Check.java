/** Compares answers with those that are due, and tells lands. */
final class Check {
    private final String name;
    private String sentence = "";
    private int wrong;
    private int asked;

    Check(String name) {
        this.name = name;
    }

    /** What follows tests this sentence of the document, which must have it word by word. */
    void sentence(String quote) {
        sentence = quote;
        holds("the document has the quote", !Document.isThere() || Document.has(quote));
    }

    void due(String call, long got, long want) {
        asked++;
        if (got != want) {
            wrong++;
            System.out.println(name + ": " + call + " answered " + got + ", due is " + want);
            if (!sentence.isEmpty()) {
                System.out.println("    \"" + sentence + "\"");
            }
        }
    }

    void holds(String what, boolean is) {
        due(what, is ? 1 : 0, 1);
    }

    void end() {
        System.out.println(name + ": " + asked + " answers, " + wrong + " not as due");
        if (wrong != 0) {
            System.exit(1);
        }
    }

    static int tell(LawFromTheTree law, String text) {
        for (char c : text.toCharArray()) {
            law.letter(c);
        }
        return law.land();
    }

    /** A new object to which a land has been told, which must be without fault. */
    static LawFromTheTree told(String... texts) {
        LawFromTheTree law = new LawFromTheTree();
        for (String text : texts) {
            int answer = tell(law, text);
            if (answer < 1) {
                System.out.println("the test's own land is wrong: " + text + ": " + answer);
                System.exit(1);
            }
        }
        return law;
    }

    /** A new object at hour 999, to which a land has been told then. */
    static LawFromTheTree toldAtTheLastHour(String text) {
        LawFromTheTree law = told("h60;".repeat(16) + "h39;");
        if (tell(law, text) < 1) {
            System.out.println("the test's own land is wrong: " + text);
            System.exit(1);
        }
        return law;
    }
}
