/** Each promise of the document: ordinary inputs, the edges it names, wrong inputs. */
public final class PromisesTest {
    private static final int NONE = -1, UNKNOWN = -2, OUTSIDE = -3, NOT = -4, FULL = -5;
    private static final int[] NOBODY = {-1, 6, Integer.MIN_VALUE, Integer.MAX_VALUE};
    private static final int[] NO_SAYING = {0, 8, -1, Integer.MIN_VALUE, Integer.MAX_VALUE};
    private static final int[] NO_HEIGHT = {-1, 2, Integer.MIN_VALUE, Integer.MAX_VALUE};
    private static final int[] NO_STEP = {-1, 6, 12, Integer.MIN_VALUE, Integer.MAX_VALUE};
    /** Six steps, one of each kind, and a second guest and child. */
    private static final String SIX = "stair 6;guest 5;child 3;gloved 7;maid 9;guest 2;child 1";

    private static final Checks checks = new Checks();

    public static void main(String[] args) {
        newObject();
        write();
        erase();
        faultWords();
        faultNumbers();
        faultByTheHouse();
        faultByClauses();
        faultAtTheEnd();
        house();
        houseBeginsAsTold();
        person();
        rail();
        as();
        downOnNothingAndSame();
        downOnAnother();
        up();
        polish();
        night();
        undo();
        keepAndBack();
        hears();
        lasts();
        send();
        cover();
        seenAndForget();
        said();
        who();
        palms();
        count();
        refusalOrder();
        checks.end();
    }

    private static void due(String what, long got, long want) {
        checks.due(what, got, want);
    }

    private static void dueRail(String what, BanisterWord x, int step, int height, int saying, int firm) {
        checks.dueRail(what, x, step, height, saying, firm);
    }

    // Promise 1
    private static void newObject() {
        BanisterWord x = new BanisterWord();
        int[] first = {8, 0, 0, 0, 0, 0, 0, 0, 0, 0};
        for (int what = 0; what < first.length; what++) {
            due("1: count(" + what + ")", x.count(what), first[what]);
        }
        dueRail("1: highest", x, 7, 1, NONE, 0);
        due("1: no ninth step", x.rail(8, 1, 0), UNKNOWN);
        due("1: nothing kept", x.back(0), NOT);
    }

    // Promise 2
    private static void write() {
        BanisterWord x = new BanisterWord();
        for (int wrong : new int[] {-1, 256, Integer.MIN_VALUE, Integer.MAX_VALUE}) {
            due("2: write(" + wrong + ")", x.write(wrong), OUTSIDE);
        }
        for (int i = 0; i < 160; i++) {
            due("2: letter " + i, x.write(i % 2 * 255), i + 1);
        }
        due("2: a letter too many", x.write(97), FULL);
        due("2: outside comes first", x.write(256), OUTSIDE);
        due("2: it still has 160", x.count(9), 160);
    }

    // Promise 3
    private static void erase() {
        BanisterWord x = new BanisterWord();
        due("3: empty", x.erase(), 0);
        Checks.write(x, "clean");
        due("3: five", x.erase(), 5);
        due("3: empty then", x.count(9), 0);
        Checks.write(x, "maid 1");
        due("3: the next text stands alone", x.house(), 1);
    }

    // Promise 4
    private static void dueFault(String text, int want) {
        dueFaultIn(new BanisterWord(), text, want);
    }

    private static void dueFaultIn(BanisterWord x, String text, int want) {
        Checks.write(x, text);
        due("4: fault of '" + text + "'", x.fault(), want);
        due("4: fault again of '" + text + "'", x.fault(), want);
        due("4: the text stays", x.erase(), text.length());
    }

    private static void faultWords() {
        dueFault("", 0);
        dueFault("   ", 3);
        dueFault("clean", NONE);
        dueFault("  clean  ", NONE);
        dueFault("clean;", 6);
        dueFault("clean ; ", 8);
        dueFault(";clean", 0);
        dueFault("clean;;clean", 6);
        dueFault("clean clean", 6);
        dueFault("clean 1", 6);
        dueFault("cleaner", 0);
        dueFault("cleanz", 0);
        dueFault("cleana", 0);
        dueFault("clea", 0);
        dueFault("Clean", 0);
        dueFault("clean.", 5);
        dueFault("clean\t", 5);
        dueFault("clean;person 3", 6);
        dueFault("7", 0);
        dueFault("guest", 5);
        dueFault("guest  ", 7);
        dueFault("guest ;clean", 6);
        dueFault("guest five", 6);
        dueFault("guest 5 5", 8);
        dueFault("guest5;maid3", NONE);
        dueFault("guest 5x", 7);
        dueFault("guest -5", 6);
        dueFault("word 1 1 1", 10);
        dueFault("word 1 1 1;", 10);
        dueFault("word 1 1 1 1 1", 13);
        dueFault("stair 4 ;  guest 3;child 2;gloved 1;maid 9;word 3 1 7 20;clean", NONE);
    }

    private static void faultNumbers() {
        for (int n = 0; n < 100; n++) {
            dueFault("stair " + n, n >= 2 && n <= 12 ? NONE : 6);
            dueFault("guest " + n, n >= 1 && n <= 9 ? NONE : 6);
            dueFault("child " + n, n >= 1 && n <= 9 ? NONE : 6);
            dueFault("gloved " + n, n >= 1 && n <= 9 ? NONE : 7);
            dueFault("maid " + n, n >= 1 && n <= 9 ? NONE : 5);
            dueFault("word " + n + " 0 1 1", n <= 7 ? NONE : 5);
            dueFault("word 0 " + n + " 1 1", n <= 1 ? NONE : 7);
            dueFault("word 0 0 " + n + " 1", n >= 1 && n <= 7 ? NONE : 9);
            dueFault("word 0 0 1 " + n, n >= 1 && n <= 20 ? NONE : 11);
        }
        dueFault("guest 05", NONE);
        dueFault("guest 005", 6);
        dueFault("stair 4294967300", 6);
        dueFault("word 00 01 07 020", 14);
    }

    private static void faultByTheHouse() {
        dueFault("stair 3;word 2 0 1 1", NONE);
        dueFault("stair 3;word 3 0 1 1", 13);
        dueFault("stair 12;word 11 0 1 1", NONE);
        dueFault("word 11 0 1 1;stair 12", 5);
        dueFault("maid 3;maid 3;maid 3;maid 3;maid 3;guest 3", NONE);
        dueFault("maid 3;maid 3;maid 3;maid 3;maid 3;guest 3;child 0", 43);
        dueFault("maid 3;maid 3;maid 3;maid 3;maid 3;guest 3;stair 2;child 1", NONE);
        BanisterWord x = Checks.house(SIX);
        dueFaultIn(x, "gloved 1", 0);
        dueFaultIn(x, "clean;gloved 1", 6);
        dueFaultIn(x, "stair 6;gloved 1", NONE);
        dueFaultIn(x, "word 5 1 1 1", NONE);
        dueFaultIn(x, "word 6 1 1 1", 5);
    }

    private static void faultByClauses() {
        String fourteen = "clean" + ";clean".repeat(13);
        dueFault(fourteen, NONE);
        dueFault(fourteen + " ", NONE);
        dueFault(fourteen + ";", 83);
        dueFault(fourteen + ";clean", 83);
        dueFault(fourteen + "x", 78);
    }

    /** What was written ahead of an erase, or fills the text to its end, is not read as more of it. */
    private static void faultAtTheEnd() {
        BanisterWord x = new BanisterWord();
        dueFaultIn(x, "guest 555", 6);
        dueFaultIn(x, "guest 5", NONE);
        dueFaultIn(x, "cleans", 0);
        dueFaultIn(x, "clean", NONE);
        dueFaultIn(x, "clean x", 6);
        dueFaultIn(x, "clean ", NONE);
        dueFault(" ".repeat(160), 160);
        dueFault("clean" + " ".repeat(155), NONE);
        dueFault(" ".repeat(155) + "clean", NONE);
        dueFault(" ".repeat(153) + "guest 5", NONE);
        dueFault(" ".repeat(154) + "clean;", 160);
        dueFault(" ".repeat(155) + "guest", 160);
        dueFault("a".repeat(160), 0);
        dueFault("guest " + "1".repeat(154), 6);
    }

    // Promise 5
    private static void house() {
        BanisterWord x = new BanisterWord();
        due("5: an empty text", x.house(), NOT);
        Checks.write(x, "stair 3;guest 0");
        due("5: a fault", x.house(), NOT);
        due("5: nothing changed", x.count(0), 8);
        due("5: the text stays", x.erase(), 15);
        Checks.write(x, "stair 3;guest 4;word 1 0 2 3;word 1 0 5 6;word 2 1 2 1");
        due("5: clauses", x.house(), 5);
        due("5: the text is empty", x.count(9), 0);
        due("5: steps", x.count(0), 3);
        due("5: people", x.count(1), 1);
        dueRail("5: the later word", x, 1, 0, 5, 6);
        dueRail("5: the other word", x, 2, 1, 2, 1);
        Checks.write(x, "word 0 0 1 1;clean;word 0 1 4 4");
        due("5: clauses of clean", x.house(), 3);
        due("5: clean in its order", x.count(6), 1 << 4);
        due("5: people stay", x.count(1), 1);
        Checks.write(x, "maid 2;stair 12");
        due("5: clauses of stair", x.house(), 2);
        due("5: no people", x.count(1), 0);
        due("5: nothing on rails", x.count(3), 0);
        Checks.write(x, "clean" + ";clean".repeat(13));
        due("5: fourteen clauses", x.house(), 14);
    }

    private static void houseBeginsAsTold() {
        BanisterWord x = Checks.house("stair 4;guest 5;word 0 1 2 3;word 1 1 3 1");
        x.up(0, 3);
        x.down(0, 2, 6);
        x.polish(0);
        x.night();
        x.keep(0);
        x.keep(1);
        x.seen(0, 1, 1, 1);
        Checks.write(x, "child 2");
        due("5: a text more", x.house(), 1);
        due("5: day 0", x.count(2), 0);
        dueRail("5: as told 0", x, 0, 1, 2, 3);
        dueRail("5: as told 1", x, 1, 1, 3, 1);
        dueRail("5: what was said is gone", x, 2, 1, NONE, 0);
        due("5: nobody knows anything", x.count(5), 0);
        due("5: nothing is seen", x.count(7), 0);
        due("5: nothing can be undone", x.undo(), NOT);
        due("5: nothing is kept in 0", x.back(0), NOT);
        due("5: nothing is kept in 1", x.back(1), NOT);
        due("5: the first stays", x.person(0, 1), 5);
        due("5: the second came", x.person(1, 0), 1);
    }

    // Promise 6
    private static void person() {
        BanisterWord x = Checks.house(SIX + ";word 0 1 4 9;word 1 1 7 9");
        int[] kinds = {0, 1, 2, 3, 0, 1};
        int[] warmths = {5, 3, 7, 9, 2, 1};
        for (int i = 0; i < 6; i++) {
            due("6: kind of " + i, x.person(i, 0), kinds[i]);
            due("6: warmth of " + i, x.person(i, 1), warmths[i]);
            due("6: knows of " + i, x.person(i, 2), 0);
        }
        x.up(4, 1);
        due("6: he knows", x.person(4, 2), 1 << 4 | 1 << 7);
        due("6: another does not", x.person(0, 2), 0);
        due("6: what 3", x.person(0, 3), OUTSIDE);
        due("6: what -1", x.person(0, -1), OUTSIDE);
        for (int nobody : NOBODY) {
            due("6: person(" + nobody + ")", x.person(nobody, 0), UNKNOWN);
        }
    }

    // Promise 7
    private static void rail() {
        BanisterWord x = Checks.house(SIX + ";word 5 1 7 20;word 5 0 1 1");
        dueRail("7: high", x, 5, 1, 7, 20);
        dueRail("7: low", x, 5, 0, 1, 1);
        dueRail("7: nothing", x, 4, 1, NONE, 0);
        due("7: what 2", x.rail(0, 0, 2), OUTSIDE);
        due("7: what -1", x.rail(0, 0, -1), OUTSIDE);
        for (int step : NO_STEP) {
            due("7: step " + step, x.rail(step, 0, 0), UNKNOWN);
        }
        for (int height : NO_HEIGHT) {
            due("7: height " + height, x.rail(0, height, 0), UNKNOWN);
        }
    }

    // Promise 8
    private static void as() {
        BanisterWord x = Checks.house(SIX);
        int[][] want = {
            {5, 5, NOT, NOT, NOT},
            {6, 6, 6, NOT, NOT},
            {3, 3, NOT, 3, NOT},
            {0, NOT, NOT, NOT, 0},
            {2, 2, NOT, NOT, NOT},
            {2, 2, 2, NOT, NOT},
        };
        for (int i = 0; i < 6; i++) {
            for (int kind = 0; kind < 5; kind++) {
                due("8: as(" + i + ", " + kind + ")", x.as(i, kind), want[i][kind]);
            }
            due("8: kind 5", x.as(i, 5), OUTSIDE);
            due("8: kind -1", x.as(i, -1), OUTSIDE);
        }
        due("8: nobody", x.as(6, 9), UNKNOWN);
        due("8: gloved of warmth 1", Checks.house("gloved 1").as(0, 3), 0);
        due("8: child of warmth 9", Checks.house("child 9").as(0, 0), 18);
    }

    // Promise 9
    private static void downOnNothingAndSame() {
        BanisterWord x = Checks.house(SIX);
        due("9: guest", x.down(0, 0, 1), 1);
        dueRail("9: guest", x, 0, 1, 1, 5);
        due("9: child", x.down(1, 0, 2), 2);
        dueRail("9: child", x, 0, 0, 2, 6);
        due("9: gloved", x.down(2, 1, 3), 3);
        dueRail("9: gloved", x, 1, 1, 3, 3);
        due("9: maid", x.down(3, 2, 4), NONE);
        dueRail("9: maid", x, 2, 1, NONE, 0);
        due("9: maid where one is", x.down(3, 0, 1), 1);
        dueRail("9: maid where one is", x, 0, 1, 1, 5);
        due("9: nobody knows by it", x.count(5), 0);
        for (int i = 0; i < 20; i++) {
            due("9: more", x.down(0, 0, 1), 1);
            due("9: firm, more", x.rail(0, 1, 1), Math.min(99, 10 + 5 * i));
        }
        BanisterWord y = Checks.house("gloved 1");
        due("9: half of 1 is nothing", y.down(0, 0, 1), NONE);
        due("9: it can be undone", y.count(8), 1);
    }

    private static void downOnAnother() {
        BanisterWord x = Checks.house("guest 5;guest 3;child 2;word 0 1 7 9;word 0 0 7 4;word 1 1 6 5;word 1 0 6 3");
        due("9: firmer", x.down(0, 0, 1), 7);
        dueRail("9: firmer", x, 0, 1, 7, 4);
        due("9: less firm", x.down(0, 0, 1), 1);
        dueRail("9: less firm", x, 0, 1, 1, 1);
        due("9: as firm, low", x.down(2, 0, 1), NONE);
        dueRail("9: as firm, low", x, 0, 0, NONE, 0);
        due("9: as firm, high", x.down(0, 1, 1), NONE);
        dueRail("9: as firm, high", x, 1, 1, NONE, 0);
        due("9: less firm, low", x.down(2, 1, 7), 7);
        dueRail("9: less firm, low", x, 1, 0, 7, 1);
        due("9: the highest step", x.down(1, 7, 7), 7);
        for (int nobody : NOBODY) {
            due("9: person " + nobody, x.down(nobody, 0, 1), UNKNOWN);
        }
        for (int step : new int[] {-1, 8, Integer.MIN_VALUE, Integer.MAX_VALUE}) {
            due("9: step " + step, x.down(0, step, 1), UNKNOWN);
        }
        for (int saying : NO_SAYING) {
            due("9: saying " + saying, x.down(0, 0, saying), UNKNOWN);
        }
        due("9: refusals can't be undone", x.count(8), 6);
    }

    // Promise 10
    private static void up() {
        BanisterWord x = Checks.house(SIX + ";word 0 1 1 1;word 2 1 2 3;word 3 1 3 2;word 2 0 4 1;word 5 0 5 2");
        due("10: guest to 2", x.up(0, 2), 1 << 1 | 1 << 2);
        dueRail("10: rubbed off", x, 0, 1, NONE, 0);
        dueRail("10: less firm", x, 2, 1, 2, 2);
        dueRail("10: above stays", x, 3, 1, 3, 2);
        dueRail("10: low stays", x, 2, 0, 4, 1);
        due("10: what he knew stays", x.up(0, 5), 1 << 1 | 1 << 2 | 1 << 3);
        due("10: child", x.up(1, 5), 1 << 4 | 1 << 5);
        due("10: the other child", x.up(5, 5), 1 << 5);
        int firm = x.count(4);
        due("10: gloved", x.up(2, 5), 0);
        due("10: maid", x.up(3, 5), 0);
        due("10: it stays as it is", x.count(4), firm);
        due("10: nothing new", x.up(4, 0), 0);
        due("10: known by anybody", x.count(5), 62);
        due("10: nobody", x.up(6, 0), UNKNOWN);
        for (int step : NO_STEP) {
            due("10: step " + step, x.up(0, step), UNKNOWN);
        }
    }

    // Promise 11
    private static void polish() {
        BanisterWord x = Checks.house(SIX + ";word 0 1 1 1;word 0 0 2 3;word 3 1 3 2");
        BanisterWord y = Checks.house("stair 12;word 0 1 1 1;word 1 0 2 3;word 1 1 2 4;word 2 0 3 2;word 11 1 1 1");
        due("11: between others", y.polish(1), 2);
        dueRail("11: below stays", y, 0, 1, 1, 1);
        dueRail("11: above stays", y, 2, 0, 3, 2);
        due("11: the highest", y.polish(11), 1);
        due("11: two", x.polish(0), 2);
        due("11: one", x.polish(3), 1);
        due("11: none", x.polish(0), 0);
        due("11: all gone", x.count(4), 0);
        due("11: all can be undone", x.count(8), 3);
        for (int step : NO_STEP) {
            due("11: step " + step, x.polish(step), UNKNOWN);
        }
    }

    // Promise 12
    private static void night() {
        BanisterWord x = Checks.house("word 0 1 1 1;word 0 0 2 3;word 7 1 3 2");
        due("12: first", x.night(), 1);
        dueRail("12: gone", x, 0, 1, NONE, 0);
        dueRail("12: cooler", x, 0, 0, 2, 2);
        due("12: second", x.night(), 2);
        due("12: one is left", x.count(3), 1);
        for (int day = 3; day <= 999; day++) {
            due("12: night", x.night(), day);
        }
        due("12: nothing is left", x.count(4), 0);
        due("12: full", x.night(), FULL);
        due("12: nothing changed", x.count(2), 999);
        due("12: a refusal can't be undone", x.undo(), 7);
        due("12: the day before", x.count(2), 998);
    }

    // Promise 13
    private static void undo() {
        BanisterWord x = Checks.house(SIX + ";word 0 1 1 3;word 0 0 2 2");
        due("13: none", x.undo(), NOT);
        x.down(0, 0, 5);
        x.up(4, 5);
        x.polish(0);
        x.night();
        due("13: four", x.count(8), 4);
        due("13: night", x.undo(), 3);
        due("13: day", x.count(2), 0);
        due("13: polish", x.undo(), 2);
        dueRail("13: low is there", x, 0, 0, 2, 2);
        dueRail("13: high is there", x, 0, 1, 5, 1);
        due("13: he knows", x.person(4, 2), 1 << 5);
        due("13: up", x.undo(), 1);
        due("13: he does not know", x.person(4, 2), 0);
        dueRail("13: as firm as before", x, 0, 1, 5, 2);
        due("13: down", x.undo(), 0);
        dueRail("13: what was told", x, 0, 1, 1, 3);
        due("13: none more", x.undo(), NOT);
        for (int i = 0; i < 11; i++) {
            x.night();
        }
        x.seen(0, 0, 1, 1);
        x.keep(0);
        for (int left = 7; left >= 0; left--) {
            due("13: the last eight", x.undo(), left);
        }
        due("13: no ninth", x.undo(), NOT);
        due("13: day 3", x.count(2), 3);
        due("13: what is seen stays", x.count(7), 1);
        due("13: what is kept stays", x.back(0), 11);
    }

    // Promises 14 and 15
    private static void keepAndBack() {
        BanisterWord x = Checks.house(SIX + ";word 0 1 1 4;word 0 0 2 4");
        due("15: nothing kept", x.back(0), NOT);
        due("14: day 0", x.keep(0), 0);
        due("15: nothing kept in 1", x.back(1), NOT);
        x.up(0, 0);
        x.night();
        due("14: day 1", x.keep(1), 1);
        due("14: it can be undone yet", x.count(8), 2);
        x.polish(0);
        x.seen(0, 0, 1, 1);
        due("15: to day 0", x.back(0), 0);
        dueRail("15: as kept", x, 0, 1, 1, 4);
        due("15: nobody knows", x.count(5), 0);
        due("15: nothing can be undone", x.undo(), NOT);
        due("15: what is seen stays", x.count(7), 1);
        due("15: to day 1", x.back(1), 1);
        dueRail("15: as kept later", x, 0, 1, 1, 2);
        due("15: he knows", x.person(0, 2), 1 << 1);
        x.night();
        due("15: again", x.back(1), 1);
        x.night();
        due("14: anew", x.keep(0), 2);
        x.forget();
        due("15: anew", x.back(0), 2);
        due("15: what was forgotten stays so", x.count(7), 0);
        for (int k : new int[] {-1, 2, Integer.MIN_VALUE, Integer.MAX_VALUE}) {
            due("14: k " + k, x.keep(k), UNKNOWN);
            due("15: k " + k, x.back(k), UNKNOWN);
        }
    }

    // Promise 16
    private static void hears() {
        BanisterWord x = Checks.house(SIX + ";word 0 1 1 1;word 2 1 2 3;word 5 1 7 2;word 2 0 4 1");
        due("16: guest to 0", x.hears(0, 0), 1 << 1);
        due("16: guest to 2", x.hears(0, 2), 1 << 1 | 1 << 2);
        due("16: guest to 5", x.hears(0, 5), 1 << 1 | 1 << 2 | 1 << 7);
        due("16: child", x.hears(1, 5), 1 << 4);
        due("16: gloved", x.hears(2, 5), 0);
        due("16: maid", x.hears(3, 5), 0);
        due("16: nothing changes", x.count(4), 7);
        due("16: nobody knows", x.count(5), 0);
        x.up(0, 0);
        due("16: by going up now", x.hears(0, 2), 1 << 2);
        BanisterWord y = Checks.house("guest 1;word 0 1 3 1;word 1 1 3 1;word 2 1 3 1;word 3 1 3 1");
        due("16: twice", y.hears(0, 1), 1 << 3);
        due("16: four times", y.up(0, 7), 1 << 3);
        due("16: nobody", x.hears(6, 0), UNKNOWN);
        for (int step : NO_STEP) {
            due("16: step " + step, x.hears(0, step), UNKNOWN);
        }
    }

    // Promise 17
    private static void lasts() {
        BanisterWord x = Checks.house(SIX + ";word 0 1 1 2;word 2 0 1 9;word 5 1 1 4;word 5 0 7 20");
        due("17: the firmest", x.lasts(1), 9);
        due("17: the highest saying", x.lasts(7), 20);
        due("17: nowhere", x.lasts(2), 0);
        x.night();
        due("17: a night later", x.lasts(1), 8);
        for (int i = 0; i < 40; i++) {
            x.down(0, 0, 2);
        }
        due("17: 99", x.lasts(2), 99);
        for (int saying : NO_SAYING) {
            due("17: saying " + saying, x.lasts(saying), UNKNOWN);
        }
    }

    // Promise 18
    private static void send() {
        BanisterWord x = Checks.house("gloved 9;guest 1;maid 1;guest 2;guest 3;child 1;word 1 1 1 1;word 7 1 2 2;word 3 1 2 1;word 0 1 3 3;word 0 0 4 1");
        due("18: one", x.send(1, 1), 1 << 3);
        due("18: the least", x.send(4, 1), 1 << 1);
        due("18: two", x.send(1, 2), 1 << 3 | 1 << 4);
        due("18: two, the least", x.send(4, 2), 1 << 1 | 1 << 3);
        due("18: three are not there", x.send(1, 3), NONE);
        due("18: nowhere", x.send(1, 7), 0);
        due("18: at the other height", x.send(1, 4), 0);
        due("18: gloved", x.send(0, 3), 0);
        due("18: maid", x.send(2, 3), 0);
        due("18: a child alone", x.send(5, 4), NONE);
        due("18: nothing changes", x.count(4), 8);
        BanisterWord y = Checks.house("child 1;guest 1;child 9;word 0 0 1 1;word 7 0 2 2");
        due("18: the first", y.send(2, 1), 1);
        due("18: another child", y.send(0, 1), 1 << 2);
        due("18: not himself twice", y.send(0, 2), NONE);
        due("18: nobody", x.send(6, 1), UNKNOWN);
        for (int saying : NO_SAYING) {
            due("18: saying " + saying, x.send(1, saying), UNKNOWN);
        }
    }

    // Promise 19
    private static void cover() {
        BanisterWord x = Checks.house(SIX + ";word 0 1 1 5;word 1 1 2 2;word 2 1 3 6;word 0 0 4 6;word 1 0 5 2;word 2 0 5 7");
        due("19: as firm", x.cover(0, 1), 1);
        due("19: several", x.cover(1, 1), 1 | 1 << 2 | 1 << 4);
        due("19: nobody can", x.cover(2, 1), 0);
        due("19: a child", x.cover(0, 0), 1 << 1);
        due("19: both children", x.cover(1, 0), 1 << 1 | 1 << 5);
        due("19: no child can", x.cover(2, 0), 0);
        due("19: nothing there", x.cover(5, 1), 0);
        due("19: nothing changes", x.count(4), 28);
        for (int step : NO_STEP) {
            due("19: step " + step, x.cover(step, 0), UNKNOWN);
        }
        for (int height : NO_HEIGHT) {
            due("19: height " + height, x.cover(0, height), UNKNOWN);
        }
    }

    // Promises 20 and 21
    private static void seenAndForget() {
        BanisterWord x = Checks.house(SIX);
        due("21: nothing", x.forget(), 0);
        for (int i = 1; i <= 6; i++) {
            due("20: seen", x.seen(0, 5, 7, i % 2), i);
        }
        due("20: full", x.seen(0, 5, 7, 1), FULL);
        due("20: outside comes first", x.seen(0, 5, 7, 2), OUTSIDE);
        due("20: unknown comes first", x.seen(6, 5, 7, 2), UNKNOWN);
        due("20: six", x.count(7), 6);
        due("21: six", x.forget(), 6);
        due("21: none then", x.count(7), 0);
        due("20: anew", x.seen(0, 5, 7, 1), 1);
        due("20: heard -1", x.seen(0, 5, 7, -1), OUTSIDE);
        for (int step : NO_STEP) {
            due("20: step " + step, x.seen(0, step, 1, 1), UNKNOWN);
        }
        for (int saying : NO_SAYING) {
            due("20: saying " + saying, x.seen(0, 0, saying, 1), UNKNOWN);
        }
        due("20: nothing can be undone", x.count(8), 0);
    }

    // Promise 22
    private static void said() {
        BanisterWord x = Checks.house(SIX + ";word 3 1 2 4;word 4 1 2 9");
        due("22: nothing is seen", x.said(0, 1), 63);
        x.seen(4, 3, 1, 1);
        due("22: up to 3", x.said(0, 1), 0b001111);
        x.seen(4, 1, 1, 0);
        due("22: above 1", x.said(0, 1), 0b001100);
        due("22: a child says it low", x.said(1, 1), 0);
        due("22: a maid by the wall", x.said(3, 1), 0);
        due("22: another saying", x.said(0, 2), 0);
        x.seen(4, 3, 2, 1);
        due("22: the other is there yet", x.said(0, 1), 0b000100);
        due("22: a gloved one", x.said(2, 1), 0b000100);
        x.seen(2, 5, 1, 1);
        due("22: a gloved one hears nothing", x.said(0, 1), 0);
        x.forget();
        x.seen(4, 3, 2, 0);
        due("22: said over the other", x.said(0, 1), 0b001000);
        due("22: not firm enough", x.said(4, 1), 0);
        x.forget();
        x.seen(0, 5, 6, 1);
        x.seen(0, 5, 6, 1);
        due("22: each by itself", x.said(4, 6), 0b000111 | 1 << 5);
        due("22: nothing changes", x.count(4), 13);
        due("22: nobody", x.said(6, 1), UNKNOWN);
        for (int saying : NO_SAYING) {
            due("22: saying " + saying, x.said(0, saying), UNKNOWN);
        }
    }

    // Promise 23
    private static void who() {
        BanisterWord x = Checks.house(SIX + ";word 3 1 2 2");
        due("23: nothing is seen", x.who(0, 1), 63);
        x.seen(0, 5, 1, 1);
        due("23: at the height of a guest's hand", x.who(0, 1), 1 | 1 << 2 | 1 << 4);
        due("23: firm enough", x.who(3, 1), 1 | 1 << 2);
        x.forget();
        x.seen(5, 5, 1, 1);
        due("23: at the height of a child's", x.who(3, 1), 1 << 1 | 1 << 5);
        x.forget();
        x.seen(0, 3, 2, 0);
        due("23: nothing is left of it", x.who(3, 1), 1 | 1 << 2 | 1 << 4);
        due("23: elsewhere", x.who(2, 1), 0);
        due("23: nobody is there", new BanisterWord().who(0, 1), 0);
        for (int step : NO_STEP) {
            due("23: step " + step, x.who(step, 1), UNKNOWN);
        }
        for (int saying : NO_SAYING) {
            due("23: saying " + saying, x.who(0, saying), UNKNOWN);
        }
    }

    // Promise 24
    private static void duePalms(BanisterWord x, int step, int n, int q, int above, int below) {
        due("24: above of " + step + ", " + n + ", " + q, x.palms(step, 1, n, q, 0), above);
        due("24: below of " + step + ", " + n + ", " + q, x.palms(step, 1, n, q, 1), below);
    }

    private static void palms() {
        BanisterWord x = Checks.house("word 0 1 1 4;word 1 1 1 1;word 2 1 1 13;word 3 1 1 12;word 4 1 1 9");
        duePalms(x, 0, 2, 5, 3, 4);
        duePalms(x, 0, 3, 2, 64, 125);
        duePalms(x, 0, 3, 10, 0, 1);
        duePalms(x, 0, 3, 0, 1, 1);
        duePalms(x, 0, 4, 0, 0, 1);
        duePalms(x, 1, 0, 10, 1, 1);
        duePalms(x, 1, 1, 0, 0, 1);
        duePalms(x, 2, 6, 10, 1, 1);
        duePalms(x, 3, 6, 10, 0, 1);
        duePalms(x, 3, 6, 9, 468559, 1000000);
        duePalms(x, 4, 6, 1, 19683, 20000);
        duePalms(x, 7, 0, 0, 0, 1);
        duePalms(x, 7, 6, 3, 0, 1);
        for (int wrong : new int[] {-1, Integer.MIN_VALUE, Integer.MAX_VALUE}) {
            due("24: n " + wrong, x.palms(0, 1, wrong, 0, 0), OUTSIDE);
            due("24: q " + wrong, x.palms(0, 1, 0, wrong, 0), OUTSIDE);
            due("24: part " + wrong, x.palms(0, 1, 0, 0, wrong), OUTSIDE);
            due("24: step " + wrong, x.palms(wrong, 1, 0, 0, 0), UNKNOWN);
            due("24: height " + wrong, x.palms(0, wrong, 0, 0, 0), UNKNOWN);
        }
        due("24: n 7", x.palms(0, 1, 7, 0, 0), OUTSIDE);
        due("24: q 11", x.palms(0, 1, 0, 11, 0), OUTSIDE);
        due("24: part 2", x.palms(0, 1, 0, 0, 2), OUTSIDE);
        due("24: step 8", x.palms(8, 1, 0, 0, 0), UNKNOWN);
        due("24: height 2", x.palms(0, 2, 0, 0, 0), UNKNOWN);
    }

    // Promise 25
    private static void count() {
        BanisterWord x = Checks.house(SIX + ";word 0 1 1 4;word 5 0 7 3;word 5 1 7 2");
        x.up(0, 0);
        x.up(1, 5);
        x.night();
        x.seen(0, 0, 1, 1);
        Checks.write(x, "maid");
        int[] want = {6, 6, 1, 3, 2 + 1 + 1, 1 << 1 | 1 << 7, 1 << 1 | 1 << 7, 1, 3, 4};
        for (int what = 0; what < want.length; what++) {
            due("25: count(" + what + ")", x.count(what), want[what]);
        }
        BanisterWord y = Checks.house("stair 12;word 0 0 3 2;word 11 1 6 5");
        due("25: rails of both ends", y.count(3), 2);
        due("25: firm of both ends", y.count(4), 7);
        due("25: sayings of both ends", y.count(6), 1 << 3 | 1 << 6);
        for (int what : new int[] {-1, 10, Integer.MIN_VALUE, Integer.MAX_VALUE}) {
            due("25: count(" + what + ")", x.count(what), OUTSIDE);
        }
    }

    /** UNKNOWN, OUTSIDE, NOT, FULL: the first that fits, in calls that have several. */
    private static void refusalOrder() {
        BanisterWord x = Checks.house(SIX);
        due("person: unknown first", x.person(6, 3), UNKNOWN);
        due("rail: unknown first", x.rail(6, 0, 2), UNKNOWN);
        due("rail: height unknown first", x.rail(0, 2, 2), UNKNOWN);
        due("as: unknown first", x.as(6, 5), UNKNOWN);
        due("seen: saying unknown first", x.seen(0, 0, 8, 2), UNKNOWN);
        due("palms: unknown first", x.palms(6, 0, 7, 11, 2), UNKNOWN);
        due("palms: height unknown first", x.palms(0, 2, 7, 11, 2), UNKNOWN);
    }
}
