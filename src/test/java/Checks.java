/** Counts and prints answers that are not as due; every test ends by end(). */
final class Checks {
    private int made;
    private int wrong;
    private String sentence = "";

    /** Runs the test of one sentence of the document; what is not as due is printed with the sentence. */
    void by(String sentence, Runnable test) {
        this.sentence = "'" + sentence + "': ";
        int before = made;
        test.run();
        holds("the sentence has a test", made > before);
        this.sentence = "";
    }

    void due(String what, long got, long want) {
        made++;
        if (got != want) {
            wrong++;
            System.out.println(sentence + what + " answered " + got + ", due is " + want);
        }
    }

    void holds(String what, boolean so) {
        due(what, so ? 1 : 0, 1);
    }

    /** What is on a rail: both answers. */
    void dueRail(String what, BanisterWord x, int step, int height, int saying, int firm) {
        due(what + ", saying at " + step + "/" + height, x.rail(step, height, 0), saying);
        due(what + ", firm at " + step + "/" + height, x.rail(step, height, 1), firm);
    }

    void end() {
        System.out.println(made + " answers, " + wrong + " not as due");
        if (wrong != 0) {
            System.exit(1);
        }
    }

    /** Writes a text on top of what the object has. */
    static void write(BanisterWord x, String text) {
        for (int i = 0; i < text.length(); i++) {
            x.write(text.charAt(i));
        }
    }

    /** A house told by texts without fault, one behind another. */
    static BanisterWord house(String... texts) {
        BanisterWord x = new BanisterWord();
        for (String text : texts) {
            tell(x, text);
        }
        return x;
    }

    static void tell(BanisterWord x, String text) {
        write(x, text);
        if (text.length() > 160 || x.house() < 0) {
            throw new IllegalStateException("a test's own text has a fault: " + text);
        }
    }
}
