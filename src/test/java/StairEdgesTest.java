/** The edges of what is there and what is done (promises 6 to 15, and the part on HANDS), a test for each sentence. */
public final class StairEdgesTest {
    private static final int NONE = -1, UNKNOWN = -2, OUTSIDE = -3, NOT = -4, FULL = -5;
    private static final String[] KINDS = {"guest", "child", "gloved", "maid"};
    private static final int[] FAR = {Integer.MIN_VALUE, Integer.MAX_VALUE};
    /** Seven sayings at each height, all firm by 1. */
    private static final String LOW_SEVEN = "word 0 0 1 1;word 1 0 2 1;word 2 0 3 1;word 3 0 4 1;word 4 0 5 1;word 5 0 6 1;word 6 0 7 1";
    private static final String HIGH_SEVEN = "word 0 1 1 1;word 1 1 2 1;word 2 1 3 1;word 3 1 4 1;word 4 1 5 1;word 5 1 6 1;word 6 1 7 1";

    private static final Checks checks = new Checks();

    public static void main(String[] args) {
        // Promises 6, 7 and 8
        checks.by("Of one of PEOPLE: KIND (what 0), WARMTH (1), SAYINGS that he KNOWS (2, bits 1 .. 7).", StairEdgesTest::person);
        checks.by("Of a STEP's RAIL at a HEIGHT: the SAYING (what 0; NONE), how FIRM (1; 0).", StairEdgesTest::rail);
        checks.by("One taken as a KIND (0 .. 4, as they are over one another): how FIRM his SAYINGS are.", StairEdgesTest::as);
        checks.by("NOT: he is none such.", StairEdgesTest::noneSuch);
        // Promise 9
        checks.by("A HAND is at HEIGHT 1; of a CHILD at 0.", StairEdgesTest::hand);
        checks.by("by WARMTH (of a CHILD twice WARMTH; of a GLOVED one half, cut; of a MAID 0: she goes by the wall)", StairEdgesTest::byWarmth);
        checks.by("if nothing is there, it is there, FIRM by that (if that is above 0)", StairEdgesTest::onNothing);
        checks.by("is it there already, it is FIRM by that more (99 at most)", StairEdgesTest::onTheSame);
        checks.by("is another one there, which is FIRMER or as FIRM, that is less FIRM by it (none, if by nothing then)", StairEdgesTest::onAFirmer);
        checks.by("else this one is there, FIRM by as much as is left of it", StairEdgesTest::onALessFirm);
        checks.by("which SAYING is there then (at his HAND's HEIGHT; NONE)", StairEdgesTest::downAtTheEnds);
        // Promise 10
        checks.by("from STEP 0 to it, in order, at the HAND's HEIGHT", StairEdgesTest::upToIt);
        checks.by("what is there he KNOWS from then on", StairEdgesTest::knowsFromThenOn);
        checks.by("and it is 1 less FIRM (none, if by nothing then)", StairEdgesTest::upTakesOne);
        checks.by("A GLOVED one, a MAID KNOWS nothing by it, and it stays as it is.", StairEdgesTest::upByTheWall);
        // Promises 11 and 12
        checks.by("POLISH: how many SAYINGS were there (0 .. 2).", StairEdgesTest::polish);
        checks.by("nothing is on its RAIL, at both HEIGHTS", StairEdgesTest::polishOfOneStep);
        checks.by("all that is on RAILS is 1 less FIRM (none, if by nothing then)", StairEdgesTest::nightCools);
        checks.by("it is the next DAY", StairEdgesTest::nextDay);
        checks.by("FULL: it is DAY 999.", StairEdgesTest::lastDay);
        // Promise 13
        checks.by("The latest down(), up(), polish(), night() is undone", StairEdgesTest::undoOfEach);
        checks.by("(the last 8 can be)", StairEdgesTest::lastEight);
        checks.by("how many can be undone yet", StairEdgesTest::howManyYet);
        checks.by("NOT: none.", StairEdgesTest::nothingToUndo);
        // Promises 14 and 15
        checks.by("is kept (k 0, 1): the DAY", StairEdgesTest::keepBoth);
        checks.by("UNKNOWN: no such k.", StairEdgesTest::noSuchK);
        checks.by("(but SEEN, what can be undone)", StairEdgesTest::butSeen);
        checks.by("It is as it was kept, nothing can be undone: the DAY.", StairEdgesTest::back);
        checks.by("NOT: nothing was kept since the last text.", StairEdgesTest::nothingKept);
        checks.end();
    }

    private static void due(String what, long got, long want) {
        checks.due(what, got, want);
    }

    private static int firmnessOf(int kind, int warmth) {
        return new int[] {warmth, 2 * warmth, warmth / 2, 0}[kind];
    }

    // ---- promises 6, 7 and 8

    private static void person() {
        for (int kind = 0; kind < 4; kind++) {
            for (int warmth = 1; warmth <= 9; warmth++) {
                BanisterWord x = Checks.house(KINDS[kind] + " " + warmth);
                due("kind", x.person(0, 0), kind);
                due("warmth", x.person(0, 1), warmth);
                due("knows", x.person(0, 2), 0);
            }
        }
        BanisterWord x = Checks.house("guest 1;child 1", LOW_SEVEN, HIGH_SEVEN);
        for (int step = 0; step < 7; step++) {
            due("one more at step " + step, x.up(0, step) & 1 << step + 1, 1 << step + 1);
            due("all so far", x.person(0, 2), (1 << step + 2) - 2);
        }
        due("all seven", x.person(0, 2), 254);
        due("the other knows nothing yet", x.person(1, 2), 0);
        for (int what : new int[] {-1, 3, FAR[0], FAR[1]}) {
            due("what " + what, x.person(0, what), OUTSIDE);
        }
        for (int nobody : new int[] {-1, 2, FAR[0], FAR[1]}) {
            due("person " + nobody, x.person(nobody, 0), UNKNOWN);
            due("person and what " + nobody, x.person(nobody, nobody > 0 ? 3 : -1), UNKNOWN);
        }
        BanisterWord six = Checks.house("guest 1;child 2;gloved 3;maid 4;guest 5;child 6");
        due("the sixth", six.person(5, 1), 6);
        due("no seventh", six.person(6, 1), UNKNOWN);
    }

    private static void rail() {
        for (int steps = 2; steps <= 12; steps++) {
            BanisterWord x = Checks.house("stair " + steps + ";word 0 0 1 1;word " + (steps - 1) + " 1 7 20");
            checks.dueRail("the lowest", x, 0, 0, 1, 1);
            checks.dueRail("the highest", x, steps - 1, 1, 7, 20);
            checks.dueRail("nothing beside the lowest", x, 0, 1, NONE, 0);
            checks.dueRail("nothing beside the highest", x, steps - 1, 0, NONE, 0);
            for (int step : new int[] {-1, steps, FAR[0], FAR[1]}) {
                due("step " + step + " of " + steps, x.rail(step, 0, 0), UNKNOWN);
                due("step " + step + " ahead of what", x.rail(step, 0, 2), UNKNOWN);
            }
            for (int height : new int[] {-1, 2, FAR[0], FAR[1]}) {
                due("height " + height, x.rail(0, height, 1), UNKNOWN);
                due("height " + height + " ahead of what", x.rail(0, height, -1), UNKNOWN);
            }
            for (int what : new int[] {-1, 2, FAR[0], FAR[1]}) {
                due("what " + what, x.rail(0, 0, what), OUTSIDE);
            }
        }
    }

    /** For each kind of people the numbers of KINDS that they are. */
    private static final int[][] OVER = {{0, 1}, {0, 1, 2}, {0, 1, 3}, {0, 4}};

    private static boolean isUnder(int kind, int over) {
        for (int one : OVER[kind]) {
            if (one == over) {
                return true;
            }
        }
        return false;
    }

    private static void as() {
        for (int kind = 0; kind < 4; kind++) {
            for (int warmth = 1; warmth <= 9; warmth++) {
                BanisterWord x = Checks.house(KINDS[kind] + " " + warmth);
                for (int over : OVER[kind]) {
                    due(KINDS[kind] + " " + warmth + " as " + over, x.as(0, over), firmnessOf(kind, warmth));
                }
            }
            BanisterWord y = Checks.house(KINDS[kind] + " 9");
            for (int over : new int[] {-1, 5, FAR[0], FAR[1]}) {
                due("as " + over, y.as(0, over), OUTSIDE);
                due("nobody as " + over, y.as(1, over), UNKNOWN);
            }
            due("below the first", y.as(-1, 0), UNKNOWN);
        }
    }

    private static void noneSuch() {
        for (int kind = 0; kind < 4; kind++) {
            BanisterWord x = Checks.house(KINDS[kind] + " 5");
            for (int over = 0; over <= 4; over++) {
                due(KINDS[kind] + " as " + over, x.as(0, over), isUnder(kind, over) ? firmnessOf(kind, 5) : NOT);
            }
        }
    }

    // ---- promise 9

    private static void hand() {
        for (int kind = 0; kind < 3; kind++) {
            BanisterWord x = Checks.house(KINDS[kind] + " 9");
            int height = kind == 1 ? 0 : 1;
            due("down", x.down(0, 3, 4), 4);
            due("at the hand", x.rail(3, height, 0), 4);
            due("not at the other height", x.rail(3, 1 - height, 0), NONE);
        }
        BanisterWord y = Checks.house("maid 9;word 3 0 2 1;word 3 1 5 1");
        due("a maid's is high, too", y.down(0, 3, 7), 5);
    }

    private static void byWarmth() {
        for (int kind = 0; kind < 4; kind++) {
            for (int warmth = 1; warmth <= 9; warmth++) {
                BanisterWord x = Checks.house(KINDS[kind] + " " + warmth);
                x.down(0, 0, 1);
                due(KINDS[kind] + " " + warmth, x.rail(0, kind == 1 ? 0 : 1, 1), firmnessOf(kind, warmth));
                due("in all", x.count(4), firmnessOf(kind, warmth));
            }
        }
    }

    private static void onNothing() {
        BanisterWord x = Checks.house("gloved 1;maid 9;gloved 2;guest 1;child 1;child 9");
        due("a gloved one of warmth 1", x.down(0, 0, 3), NONE);
        checks.dueRail("by nothing", x, 0, 1, NONE, 0);
        due("a maid", x.down(1, 0, 3), NONE);
        checks.dueRail("by the wall", x, 0, 1, NONE, 0);
        due("none on rails", x.count(6), 0);
        due("a gloved one of warmth 2", x.down(2, 0, 3), 3);
        checks.dueRail("by 1", x, 0, 1, 3, 1);
        due("a guest of warmth 1", x.down(3, 1, 1), 1);
        checks.dueRail("by 1", x, 1, 1, 1, 1);
        due("a child of warmth 1", x.down(4, 2, 7), 7);
        checks.dueRail("by 2", x, 2, 0, 7, 2);
        due("a child of warmth 9", x.down(5, 3, 7), 7);
        checks.dueRail("by 18", x, 3, 0, 7, 18);
    }

    private static void onTheSame() {
        BanisterWord x = Checks.house("guest 9;guest 8;guest 1;guest 2;gloved 1;maid 9;word 0 1 1 20;word 1 1 1 18");
        for (int i = 1; i <= 8; i++) {
            due("above what can be told", x.down(0, 0, 1), 1);
            checks.dueRail("more", x, 0, 1, 1, 20 + 9 * i);
        }
        due("to 94", x.down(3, 0, 1), 1);
        due("by nothing", x.down(4, 0, 1), 1);
        due("by the wall", x.down(5, 0, 1), 1);
        checks.dueRail("by nothing more", x, 0, 1, 1, 94);
        due("far above 99", x.down(0, 0, 1), 1);
        checks.dueRail("far above 99", x, 0, 1, 1, 99);
        due("at 99", x.down(2, 0, 1), 1);
        checks.dueRail("at 99", x, 0, 1, 1, 99);
        for (int i = 1; i <= 8; i++) {
            x.down(0, 1, 1);
        }
        due("to 98", x.down(1, 1, 1), 1);
        checks.dueRail("to 98", x, 1, 1, 1, 98);
        x.keep(0);
        x.down(2, 1, 1);
        checks.dueRail("to 99", x, 1, 1, 1, 99);
        x.back(0);
        x.down(3, 1, 1);
        checks.dueRail("one above 99", x, 1, 1, 1, 99);
        due("nothing else", x.count(4), 99 + 99);
        BanisterWord y = Checks.house("child 9;child 8;child 1");
        for (int i = 0; i < 5; i++) {
            y.down(0, 0, 7);
        }
        checks.dueRail("low", y, 0, 0, 7, 90);
        y.down(0, 0, 7);
        checks.dueRail("low, 99 at most", y, 0, 0, 7, 99);
    }

    private static void onAFirmer() {
        for (int kind = 0; kind < 3; kind++) {
            int height = kind == 1 ? 0 : 1;
            int by = firmnessOf(kind, 8);
            String house = KINDS[kind] + " 8;word 2 " + height + " 6 ";
            BanisterWord x = Checks.house(house + (by + 1));
            due("firmer by 1", x.down(0, 2, 3), 6);
            checks.dueRail("firmer by 1", x, 2, height, 6, 1);
            x = Checks.house(house + by);
            due("as firm", x.down(0, 2, 3), NONE);
            checks.dueRail("as firm", x, 2, height, NONE, 0);
            x = Checks.house(house + 20);
            due("far firmer", x.down(0, 2, 7), 6);
            checks.dueRail("far firmer", x, 2, height, 6, 20 - by);
        }
        BanisterWord y = Checks.house("maid 9;gloved 1;word 2 1 6 1");
        due("a maid", y.down(0, 2, 3), 6);
        due("a gloved one of warmth 1", y.down(1, 2, 3), 6);
        checks.dueRail("less by nothing", y, 2, 1, 6, 1);
        BanisterWord z = Checks.house("guest 9");
        for (int i = 0; i < 12; i++) {
            z.down(0, 0, 1);
        }
        due("firm by 99", z.down(0, 0, 2), 1);
        checks.dueRail("firm by 99", z, 0, 1, 1, 90);
    }

    private static void onALessFirm() {
        for (int kind = 0; kind < 3; kind++) {
            int height = kind == 1 ? 0 : 1;
            int by = firmnessOf(kind, 9);
            String house = KINDS[kind] + " 9;word 2 " + height + " 6 ";
            BanisterWord x = Checks.house(house + (by - 1));
            due("less firm by 1", x.down(0, 2, 1), 1);
            checks.dueRail("less firm by 1", x, 2, height, 1, 1);
            x = Checks.house(house + 1);
            due("far less firm", x.down(0, 2, 7), 7);
            checks.dueRail("far less firm", x, 2, height, 7, by - 1);
        }
    }

    private static void downAtTheEnds() {
        for (int steps : new int[] {2, 8, 12}) {
            BanisterWord x = Checks.house("stair " + steps + ";guest 2;child 2");
            due("the lowest, saying 1", x.down(0, 0, 1), 1);
            due("the highest, saying 7", x.down(0, steps - 1, 7), 7);
            due("a child at the highest", x.down(1, steps - 1, 1), 1);
            due("three rails", x.count(3), 3);
            due("nobody knows by it", x.count(5), 0);
            for (int step : new int[] {-1, steps, FAR[0], FAR[1]}) {
                due("step " + step, x.down(0, step, 1), UNKNOWN);
            }
            for (int saying : new int[] {0, 8, -1, FAR[0], FAR[1]}) {
                due("saying " + saying, x.down(0, 0, saying), UNKNOWN);
            }
            for (int person : new int[] {-1, 2, FAR[0], FAR[1]}) {
                due("person " + person, x.down(person, 0, 1), UNKNOWN);
            }
            due("what can be undone", x.count(8), 3);
        }
    }

    // ---- promise 10

    private static void upToIt() {
        for (int step = 0; step < 7; step++) {
            BanisterWord x = Checks.house("guest 1;child 1", LOW_SEVEN, HIGH_SEVEN);
            due("up to " + step, x.up(0, step), (1 << step + 2) - 2);
            for (int s = 0; s < 7; s++) {
                checks.dueRail("high", x, s, 1, s <= step ? NONE : s + 1, s <= step ? 0 : 1);
                checks.dueRail("low", x, s, 0, s + 1, 1);
            }
            due("a child up to " + step, x.up(1, step), (1 << step + 2) - 2);
            due("rails that are left", x.count(3), 2 * (6 - step));
        }
        for (int steps : new int[] {2, 12}) {
            BanisterWord x = Checks.house("stair " + steps + ";guest 1;word " + (steps - 1) + " 1 7 1");
            due("one below the highest", x.up(0, steps - 2), 0);
            due("the highest", x.up(0, steps - 1), 128);
            for (int step : new int[] {-1, steps, FAR[0], FAR[1]}) {
                due("step " + step, x.up(0, step), UNKNOWN);
            }
            for (int person : new int[] {-1, 1, FAR[0], FAR[1]}) {
                due("person " + person, x.up(person, 0), UNKNOWN);
            }
        }
    }

    private static void knowsFromThenOn() {
        BanisterWord x = Checks.house("guest 9;guest 1;word 0 1 1 1;word 7 1 7 1");
        due("nothing on the way", Checks.house("guest 1").up(0, 7), 0);
        due("he knows 1", x.up(0, 0), 2);
        due("it is gone, he knows it yet", x.up(0, 0), 2);
        x.night();
        x.polish(0);
        due("and more", x.up(0, 7), 2);
        x.down(0, 7, 7);
        due("1 and 7", x.up(0, 7), 2 | 128);
        due("the other only what is there yet", x.up(1, 7), 128);
        due("the one's", x.person(0, 2), 2 | 128);
    }

    private static void upTakesOne() {
        BanisterWord x = Checks.house("guest 9;child 9;word 0 1 1 1;word 1 1 1 2;word 2 1 1 20;word 0 0 3 1;word 7 0 3 2");
        due("the same at three steps", x.up(0, 7), 2);
        checks.dueRail("by 1", x, 0, 1, NONE, 0);
        checks.dueRail("by 2", x, 1, 1, 1, 1);
        checks.dueRail("by 20", x, 2, 1, 1, 19);
        due("a child", x.up(1, 7), 8);
        checks.dueRail("low by 1", x, 0, 0, NONE, 0);
        checks.dueRail("low by 2", x, 7, 0, 3, 1);
        for (int i = 0; i < 12; i++) {
            x.down(0, 0, 5);
        }
        x.up(0, 0);
        checks.dueRail("by 99", x, 0, 1, 5, 98);
    }

    private static void upByTheWall() {
        BanisterWord x = Checks.house("gloved 9;maid 9", LOW_SEVEN, HIGH_SEVEN);
        for (int person = 0; person < 2; person++) {
            due("knows", x.up(person, 7), 0);
            due("knows then", x.person(person, 2), 0);
            due("rails", x.count(3), 14);
            due("firm", x.count(4), 14);
        }
        due("it can be undone", x.count(8), 2);
    }

    // ---- promises 11 and 12

    private static void polish() {
        BanisterWord x = Checks.house("stair 12;word 0 0 1 1;word 0 1 1 20;word 11 1 7 1;word 5 0 2 20");
        due("two", x.polish(0), 2);
        due("none then", x.polish(0), 0);
        due("one, high, on the highest step", x.polish(11), 1);
        due("one, low", x.polish(5), 1);
        due("none", x.polish(6), 0);
        due("all of them can be undone", x.count(8), 5);
        for (int steps : new int[] {2, 12}) {
            BanisterWord y = Checks.house("stair " + steps);
            for (int step : new int[] {-1, steps, FAR[0], FAR[1]}) {
                due("step " + step + " of " + steps, y.polish(step), UNKNOWN);
            }
            due("the highest of " + steps, y.polish(steps - 1), 0);
        }
    }

    private static void polishOfOneStep() {
        for (int step = 0; step < 7; step++) {
            BanisterWord x = Checks.house("guest 1", LOW_SEVEN, HIGH_SEVEN);
            x.up(0, 0);
            due("polish", x.polish(step), step == 0 ? 1 : 2);
            for (int s = 0; s < 7; s++) {
                due("low at " + s, x.rail(s, 0, 1), s == step ? 0 : 1);
                due("high at " + s, x.rail(s, 1, 1), s == step || s == 0 ? 0 : 1);
                due("low saying at " + s, x.rail(s, 0, 0), s == step ? NONE : s + 1);
            }
            due("what is known stays", x.person(0, 2), 2);
        }
    }

    private static void nightCools() {
        BanisterWord x = Checks.house("stair 12;guest 9;word 0 0 1 1;word 0 1 2 2;word 11 0 3 20;word 11 1 4 1");
        for (int i = 0; i < 12; i++) {
            x.down(0, 5, 7);
        }
        x.up(0, 0);
        due("night", x.night(), 1);
        checks.dueRail("by 1", x, 0, 0, NONE, 0);
        checks.dueRail("by 2, rubbed to 1", x, 0, 1, NONE, 0);
        checks.dueRail("by 20", x, 11, 0, 3, 19);
        checks.dueRail("by 1, the highest", x, 11, 1, NONE, 0);
        checks.dueRail("by 99", x, 5, 1, 7, 98);
        checks.dueRail("nothing", x, 4, 1, NONE, 0);
        due("what is known stays", x.count(5), 4);
        due("rails", x.count(3), 2);
        BanisterWord y = Checks.house("word 3 1 2 2");
        y.night();
        checks.dueRail("by 2", y, 3, 1, 2, 1);
        y.night();
        y.night();
        checks.dueRail("nothing stays nothing", y, 3, 1, NONE, 0);
        due("never below nothing", y.count(4), 0);
    }

    private static void nextDay() {
        BanisterWord x = new BanisterWord();
        for (int day = 1; day <= 500; day++) {
            due("night", x.night(), day);
        }
        due("the day", x.count(2), 500);
    }

    /** No object reaches DAY 999 in its 512 calls; the sentence stands all the same, so it is tested beyond them. */
    private static void lastDay() {
        BanisterWord x = Checks.house("guest 9");
        for (int day = 1; day <= 998; day++) {
            x.night();
        }
        x.down(0, 0, 1);
        due("day 998", x.count(2), 998);
        due("the last night", x.night(), 999);
        checks.dueRail("cooled", x, 0, 1, 1, 8);
        for (int i = 0; i < 3; i++) {
            due("no night more", x.night(), FULL);
            due("the day", x.count(2), 999);
            checks.dueRail("nothing cools", x, 0, 1, 1, 8);
            due("it can't be undone", x.count(8), 8);
        }
        due("kept", x.keep(0), 999);
        due("undone", x.undo(), 7);
        due("the day before", x.count(2), 998);
        due("again the last", x.night(), 999);
        due("back", x.back(0), 999);
        due("full yet", x.night(), FULL);
        due("nothing to be undone", x.undo(), NOT);
    }

    // ---- promise 13

    private static void undoOfEach() {
        String house = "guest 5;word 0 1 1 1;word 0 0 2 4;word 3 1 3 9";
        BanisterWord x = Checks.house(house);
        x.down(0, 3, 4);
        checks.dueRail("down", x, 3, 1, 3, 4);
        due("undo", x.undo(), 0);
        checks.dueRail("down undone", x, 3, 1, 3, 9);
        x.up(0, 7);
        due("undo", x.undo(), 0);
        due("up undone: knows", x.person(0, 2), 0);
        checks.dueRail("up undone: gone", x, 0, 1, 1, 1);
        checks.dueRail("up undone: less", x, 3, 1, 3, 9);
        x.polish(0);
        due("undo", x.undo(), 0);
        checks.dueRail("polish undone: low", x, 0, 0, 2, 4);
        checks.dueRail("polish undone: high", x, 0, 1, 1, 1);
        x.night();
        due("undo", x.undo(), 0);
        due("night undone: day", x.count(2), 0);
        due("night undone: rails", x.count(3), 3);
        due("night undone: firm", x.count(4), 14);
        // What is no doing stays, and is not counted as one.
        x.night();
        x.seen(0, 0, 1, 1);
        x.keep(1);
        x.write('q');
        due("one doing", x.count(8), 1);
        due("undo", x.undo(), 0);
        due("seen stays", x.count(7), 1);
        due("the text stays", x.count(9), 1);
        due("kept stays", x.back(1), 1);
    }

    private static void lastEight() {
        for (int many = 1; many <= 25; many++) {
            BanisterWord x = new BanisterWord();
            for (int i = 0; i < many; i++) {
                x.night();
            }
            int left = Math.min(8, many);
            due("of " + many, x.count(8), left);
            for (int i = 1; i <= left; i++) {
                due("undo " + i + " of " + many, x.undo(), left - i);
                due("the day", x.count(2), many - i);
            }
            due("no more", x.undo(), NOT);
            due("the day stays", x.count(2), many - left);
            x.night();
            due("one again", x.count(8), 1);
            due("undone again", x.undo(), 0);
            due("the day again", x.count(2), many - left);
        }
    }

    private static void howManyYet() {
        BanisterWord x = Checks.house("gloved 1;maid 1");
        due("a down of nothing", x.down(0, 0, 1), NONE);
        due("counts", x.count(8), 1);
        due("an up of nothing", x.up(1, 7), 0);
        due("counts", x.count(8), 2);
        due("a polish of nothing", x.polish(7), 0);
        due("counts", x.count(8), 3);
        due("a refused down", x.down(2, 0, 1), UNKNOWN);
        due("a refused up", x.up(0, 8), UNKNOWN);
        due("a refused polish", x.polish(8), UNKNOWN);
        due("they don't count", x.count(8), 3);
        due("two yet", x.undo(), 2);
        due("one yet", x.undo(), 1);
        due("none yet", x.undo(), 0);
    }

    private static void nothingToUndo() {
        BanisterWord x = Checks.house("guest 1;word 0 1 1 1");
        due("nothing was done", x.undo(), NOT);
        x.hears(0, 7);
        x.keep(0);
        x.seen(0, 0, 1, 1);
        due("nothing that can be undone", x.undo(), NOT);
        x.up(0, 0);
        x.undo();
        due("undone already", x.undo(), NOT);
        due("nothing has changed", x.count(4), 1);
    }

    // ---- promises 14 and 15

    private static void keepBoth() {
        BanisterWord x = Checks.house("guest 3;word 0 1 1 9");
        due("keep(0)", x.keep(0), 0);
        x.night();
        x.up(0, 0);
        due("keep(1)", x.keep(1), 1);
        x.night();
        due("what can be undone stays", x.count(8), 3);
        due("nothing else changes", x.count(2), 2);
        due("back(0)", x.back(0), 0);
        checks.dueRail("of 0", x, 0, 1, 1, 9);
        due("knows of 0", x.person(0, 2), 0);
        due("back(1)", x.back(1), 1);
        checks.dueRail("of 1", x, 0, 1, 1, 7);
        due("knows of 1", x.person(0, 2), 2);
        x.night();
        x.night();
        due("kept anew", x.keep(0), 3);
        x.polish(0);
        due("back to the new", x.back(0), 3);
        checks.dueRail("the new", x, 0, 1, 1, 5);
        due("the other is as it was", x.back(1), 1);
    }

    private static void noSuchK() {
        BanisterWord x = Checks.house("guest 3");
        for (int k : new int[] {-1, 2, 3, FAR[0], FAR[1]}) {
            due("keep(" + k + ")", x.keep(k), UNKNOWN);
            due("back(" + k + ")", x.back(k), UNKNOWN);
        }
        due("nothing is kept by it in 0", x.back(0), NOT);
        due("nothing is kept by it in 1", x.back(1), NOT);
    }

    private static void butSeen() {
        BanisterWord x = Checks.house("guest 3");
        x.night();
        x.seen(0, 0, 1, 1);
        x.keep(0);
        x.seen(0, 0, 1, 1);
        x.night();
        due("back", x.back(0), 1);
        due("what was seen since stays", x.count(7), 2);
        due("what could be undone then can't be", x.undo(), NOT);
        x.forget();
        due("back again", x.back(0), 1);
        due("what was forgotten since stays so", x.count(7), 0);
    }

    private static void back() {
        BanisterWord x = Checks.house("guest 3;word 0 1 1 9;word 7 0 2 1");
        x.keep(0);
        for (int i = 0; i < 3; i++) {
            x.night();
            x.down(0, 3, 4);
            x.up(0, 7);
            x.polish(0);
            due("back", x.back(0), 0);
            due("the day", x.count(2), 0);
            due("rails", x.count(3), 2);
            due("firm", x.count(4), 10);
            due("known", x.count(5), 0);
            due("what can be undone", x.count(8), 0);
            due("undo", x.undo(), NOT);
        }
        for (int i = 0; i < 4; i++) {
            x.night();
        }
        x.keep(1);
        x.back(0);
        due("to a later day", x.back(1), 4);
        due("the next night", x.night(), 5);
        due("which can be undone", x.undo(), 0);
        due("to the day kept", x.count(2), 4);
    }

    private static void nothingKept() {
        BanisterWord x = new BanisterWord();
        due("back(0) of a new one", x.back(0), NOT);
        due("back(1) of a new one", x.back(1), NOT);
        due("a new one can be kept", x.keep(1), 0);
        due("the other k", x.back(0), NOT);
        due("this k", x.back(1), 0);
        x.keep(0);
        Checks.write(x, "guest 1");
        due("a text that is not done yet", x.back(0), 0);
        due("done", x.house(), 1);
        due("kept ahead of the text: 0", x.back(0), NOT);
        due("kept ahead of the text: 1", x.back(1), NOT);
        x.keep(0);
        x.night();
        x.undo();
        due("kept since", x.back(0), 0);
        due("not kept since", x.back(1), NOT);
    }
}
