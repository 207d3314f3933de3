/** Counts and prints answers that are not as due; every test ends by end(). */
final class Checks {
    private int made;
    private int wrong;

    void due(String what, long got, long want) {
        made++;
        if (got != want) {
            wrong++;
            System.out.println(what + " answered " + got + ", due is " + want);
        }
    }

    void holds(String what, boolean so) {
        due(what, so ? 1 : 0, 1);
    }

    void end() {
        System.out.println(made + " answers, " + wrong + " not as due");
        if (wrong != 0) {
            System.exit(1);
        }
    }

    /** Writes a text on top of what the object has. */
    static void write(BanisterWord x, String text) {
        for (int i = 0; i < text.length(); i++) {
            x.write(text.charAt(i));
        }
    }

    /** A house told by a text without fault. */
    static BanisterWord house(String text) {
        BanisterWord x = new BanisterWord();
        write(x, text);
        if (x.house() < 0) {
            throw new IllegalStateException("a test's own text has a fault: " + text);
        }
        return x;
    }
}
