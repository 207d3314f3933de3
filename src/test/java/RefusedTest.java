import java.util.function.Supplier;
import java.util.function.ToIntFunction;

/**
 * 'Refused, and nothing changes: UNKNOWN .., OUTSIDE .., NOT .., FULL: the first of these that fits.'
 * Every call that can be refused, for each of its reasons, in a new house, one that is lived in and one
 * that is full; and the calls that only look, 'FORETOLD (nothing changes)'.
 */
public final class RefusedTest {
    private static final int NONE = -1, UNKNOWN = -2, OUTSIDE = -3, NOT = -4, FULL = -5;
    private static final int[] FAR = {Integer.MIN_VALUE, Integer.MAX_VALUE};
    private static final int[] NO_SAYING = {0, 8, -1, FAR[0], FAR[1]};

    private static final Checks checks = new Checks();
    private static final Unchanged unchanged = new Unchanged(checks);

    private final String name;
    private final Supplier<BanisterWord> made;
    private final int steps;
    private final int people;

    private RefusedTest(String name, Supplier<BanisterWord> made) {
        this.name = name;
        this.made = made;
        this.steps = made.get().count(0);
        this.people = made.get().count(1);
    }

    public static void main(String[] args) {
        RefusedTest[] houses = {
            new RefusedTest("new", BanisterWord::new),
            new RefusedTest("lived in", RefusedTest::livedIn),
            new RefusedTest("full", RefusedTest::full),
        };
        for (RefusedTest house : houses) {
            checks.by("UNKNOWN (no such person", house::noSuchPerson);
            checks.by("STEP", house::noSuchStep);
            checks.by("SAYING", house::noSuchSaying);
            checks.by("a HEIGHT is one of both)", house::noSuchHeight);
            checks.by("UNKNOWN: no such k.", house::noSuchK);
            checks.by("OUTSIDE (another number is not as told)", house::outside);
            checks.by("FORETOLD (nothing changes)", house::onlyLooks);
        }
        checks.by("NOT (not now: as told)", RefusedTest::notNow);
        checks.by("NOT: it has a FAULT.", RefusedTest::textsWithFaults);
        checks.by("FULL", RefusedTest::nothingMore);
        checks.by("FULL: it is DAY 999.", RefusedTest::noNightMore);
        checks.by("the first of these that fits", RefusedTest::firstThatFits);
        checks.end();
    }

    // ---- the houses

    /** Five steps, four people; ten doings, both k kept at different times, three SEEN, a good text begun. */
    private static BanisterWord livedIn() {
        BanisterWord x = Checks.house("stair 5;guest 4;child 3;word 0 1 1 2;word 2 1 2 7;word 4 0 7 9", "gloved 5;maid 6");
        x.up(0, 2);
        x.night();
        x.keep(0);
        x.down(0, 3, 5);
        x.down(1, 3, 6);
        x.polish(0);
        x.up(1, 4);
        x.keep(1);
        x.night();
        x.down(2, 1, 4);
        x.up(3, 4);
        x.up(0, 1);
        x.polish(4);
        x.seen(0, 4, 2, 1);
        x.seen(1, 3, 6, 1);
        x.seen(0, 0, 3, 0);
        Checks.write(x, "word 1 0 3 8;child 2");
        return x;
    }

    /** Twelve steps, six people, a rail firm by 99, six SEEN, eight to undo, a hundred and sixty letters. */
    private static BanisterWord full() {
        BanisterWord x = Checks.house("stair 12;guest 9;child 9;gloved 9;maid 9;guest 1;child 1;word 0 0 1 20;word 11 1 7 20");
        x.keep(0);
        for (int i = 0; i < 9; i++) {
            x.down(0, 11, 7);
        }
        x.up(1, 0);
        x.keep(1);
        for (int i = 0; i < 6; i++) {
            x.seen(i % 2 == 0 ? 0 : 1, 11, i % 2 == 0 ? 7 : 1, 1);
        }
        Checks.write(x, "word 5 1 3 8" + " ".repeat(148));
        return x;
    }

    private void dueIn(String what, ToIntFunction<BanisterWord> call, int want) {
        unchanged.due(what + " in a house that is " + name, made, call, want);
    }

    private static int[] besides(int least, int most) {
        return new int[] {least - 1, most + 1, FAR[0], FAR[1]};
    }

    // ---- UNKNOWN

    private void noSuchPerson() {
        for (int p : besides(0, people - 1)) {
            dueIn("person " + p, x -> x.person(p, 0), UNKNOWN);
            dueIn("as " + p, x -> x.as(p, 0), UNKNOWN);
            dueIn("down " + p, x -> x.down(p, 0, 1), UNKNOWN);
            dueIn("up " + p, x -> x.up(p, 0), UNKNOWN);
            dueIn("hears " + p, x -> x.hears(p, 0), UNKNOWN);
            dueIn("send " + p, x -> x.send(p, 1), UNKNOWN);
            dueIn("seen " + p, x -> x.seen(p, 0, 1, 1), UNKNOWN);
            dueIn("said " + p, x -> x.said(p, 1), UNKNOWN);
        }
    }

    private void noSuchStep() {
        for (int s : besides(0, steps - 1)) {
            dueIn("rail, step " + s, x -> x.rail(s, 0, 0), UNKNOWN);
            dueIn("down, step " + s, x -> x.down(0, s, 1), UNKNOWN);
            dueIn("up, step " + s, x -> x.up(0, s), UNKNOWN);
            dueIn("polish " + s, x -> x.polish(s), UNKNOWN);
            dueIn("hears, step " + s, x -> x.hears(0, s), UNKNOWN);
            dueIn("cover, step " + s, x -> x.cover(s, 0), UNKNOWN);
            dueIn("seen, step " + s, x -> x.seen(0, s, 1, 1), UNKNOWN);
            dueIn("who, step " + s, x -> x.who(s, 1), UNKNOWN);
            dueIn("palms, step " + s, x -> x.palms(s, 0, 1, 1, 0), UNKNOWN);
        }
    }

    private void noSuchSaying() {
        for (int t : NO_SAYING) {
            dueIn("down, saying " + t, x -> x.down(0, 0, t), UNKNOWN);
            dueIn("lasts " + t, x -> x.lasts(t), UNKNOWN);
            dueIn("send, saying " + t, x -> x.send(0, t), UNKNOWN);
            dueIn("seen, saying " + t, x -> x.seen(0, 0, t, 1), UNKNOWN);
            dueIn("said, saying " + t, x -> x.said(0, t), UNKNOWN);
            dueIn("who, saying " + t, x -> x.who(0, t), UNKNOWN);
        }
    }

    private void noSuchHeight() {
        for (int h : besides(0, 1)) {
            dueIn("rail, height " + h, x -> x.rail(0, h, 0), UNKNOWN);
            dueIn("cover, height " + h, x -> x.cover(0, h), UNKNOWN);
            dueIn("palms, height " + h, x -> x.palms(0, h, 1, 1, 0), UNKNOWN);
        }
    }

    private void noSuchK() {
        for (int k : besides(0, 1)) {
            dueIn("keep " + k, x -> x.keep(k), UNKNOWN);
            dueIn("back " + k, x -> x.back(k), UNKNOWN);
        }
    }

    // ---- OUTSIDE

    private void outside() {
        for (int letter : besides(0, 255)) {
            dueIn("write " + letter, x -> x.write(letter), OUTSIDE);
        }
        for (int what : besides(0, 1)) {
            dueIn("rail, what " + what, x -> x.rail(0, 0, what), OUTSIDE);
            dueIn("palms, part " + what, x -> x.palms(0, 0, 0, 0, what), OUTSIDE);
        }
        for (int n : besides(0, 6)) {
            dueIn("palms, n " + n, x -> x.palms(0, 0, n, 0, 0), OUTSIDE);
        }
        for (int q : besides(0, 10)) {
            dueIn("palms, q " + q, x -> x.palms(0, 0, 0, q, 0), OUTSIDE);
        }
        for (int what : besides(0, 9)) {
            dueIn("count " + what, x -> x.count(what), OUTSIDE);
        }
        // Where there is nobody, no such person is the first that fits.
        int due = people > 0 ? OUTSIDE : UNKNOWN;
        for (int what : besides(0, 2)) {
            dueIn("person, what " + what, x -> x.person(0, what), due);
        }
        for (int kind : besides(0, 4)) {
            dueIn("as, kind " + kind, x -> x.as(0, kind), due);
        }
        for (int heard : besides(0, 1)) {
            dueIn("seen, heard " + heard, x -> x.seen(0, 0, 1, heard), due);
        }
    }

    // ---- NOT

    private static void notNow() {
        RefusedTest lived = new RefusedTest("lived in", RefusedTest::livedIn);
        int[][] noneSuch = {{2, 3, 4}, {3, 4}, {2, 4}, {1, 2, 3}};
        for (int person = 0; person < noneSuch.length; person++) {
            for (int kind : noneSuch[person]) {
                int p = person;
                lived.dueIn("as " + p + ", " + kind, x -> x.as(p, kind), NOT);
            }
        }
        RefusedTest fresh = new RefusedTest("new", BanisterWord::new);
        fresh.dueIn("undo", BanisterWord::undo, NOT);
        fresh.dueIn("back 0", x -> x.back(0), NOT);
        fresh.dueIn("back 1", x -> x.back(1), NOT);
        RefusedTest undone = new RefusedTest("undone as far as it can be", RefusedTest::allUndone);
        undone.dueIn("undo", BanisterWord::undo, NOT);
        RefusedTest goneBack = new RefusedTest("gone back", RefusedTest::goneBack);
        goneBack.dueIn("undo", BanisterWord::undo, NOT);
        for (int k = 0; k < 2; k++) {
            int other = k;
            RefusedTest once = new RefusedTest("kept once", () -> keptOnce(1 - other));
            once.dueIn("back " + k, x -> x.back(other), NOT);
            RefusedTest told = new RefusedTest("told anew", RefusedTest::toldAnew);
            told.dueIn("back " + k, x -> x.back(other), NOT);
        }
    }

    private static BanisterWord allUndone() {
        BanisterWord x = livedIn();
        for (int i = 0; i < 8; i++) {
            x.undo();
        }
        return x;
    }

    private static BanisterWord goneBack() {
        BanisterWord x = livedIn();
        x.back(1);
        return x;
    }

    private static BanisterWord keptOnce(int k) {
        BanisterWord x = Checks.house("guest 4;word 0 1 1 9");
        x.up(0, 0);
        x.keep(k);
        x.night();
        return x;
    }

    private static BanisterWord toldAnew() {
        BanisterWord x = livedIn();
        x.house();
        x.night();
        return x;
    }

    /** A text is refused as a whole: what stands ahead of its FAULT is not done either. */
    private static void textsWithFaults() {
        String[] texts = {"", "  ", ";", "x", "stair 3;", "stair 3;x", "clean;guest 0", "clean;word 5 0 1 1", "guest 1;child",
            "guest 1;guest 1;guest 1", "stair 2;word 2 0 1 1", "clean" + ";clean".repeat(14), "clean;" + "1".repeat(154)};
        for (String text : texts) {
            RefusedTest house = new RefusedTest("told '" + text + "'", () -> {
                BanisterWord x = livedIn();
                x.erase();
                Checks.write(x, text);
                return x;
            });
            house.dueIn("house", BanisterWord::house, NOT);
        }
        new RefusedTest("new", BanisterWord::new).dueIn("house", BanisterWord::house, NOT);
    }

    // ---- FULL

    private static void nothingMore() {
        RefusedTest full = new RefusedTest("full", RefusedTest::full);
        for (int letter : new int[] {0, ' ', ';', 'a', 255}) {
            full.dueIn("write " + letter, x -> x.write(letter), FULL);
        }
        for (int heard = 0; heard < 2; heard++) {
            int h = heard;
            full.dueIn("seen", x -> x.seen(0, 0, 1, h), FULL);
            full.dueIn("seen, the greatest", x -> x.seen(5, 11, 7, h), FULL);
        }
    }

    /** DAY 999 lies beyond an object's 512 calls, and so do these looks at it. */
    private static void noNightMore() {
        RefusedTest late = new RefusedTest("999 days old", () -> {
            BanisterWord x = Checks.house("guest 9;child 9;word 0 0 1 1");
            x.keep(0);
            for (int i = 0; i < 996; i++) {
                x.night();
            }
            x.down(0, 0, 1);
            x.night();
            x.up(0, 0);
            x.night();
            x.down(1, 7, 3);
            x.keep(1);
            x.night();
            return x;
        });
        late.dueIn("night", BanisterWord::night, FULL);
    }

    // ---- the order of refusals

    private static void firstThatFits() {
        RefusedTest full = new RefusedTest("full", RefusedTest::full);
        full.dueIn("person: unknown, outside", x -> x.person(6, 3), UNKNOWN);
        full.dueIn("rail: step unknown, outside", x -> x.rail(12, 0, 2), UNKNOWN);
        full.dueIn("rail: height unknown, outside", x -> x.rail(0, 2, 2), UNKNOWN);
        full.dueIn("as: unknown, outside", x -> x.as(6, 5), UNKNOWN);
        full.dueIn("as: outside, none such", x -> x.as(0, 5), OUTSIDE);
        full.dueIn("write: outside, full", x -> x.write(256), OUTSIDE);
        full.dueIn("seen: person unknown, outside, full", x -> x.seen(6, 0, 1, 2), UNKNOWN);
        full.dueIn("seen: step unknown, outside, full", x -> x.seen(0, 12, 1, 2), UNKNOWN);
        full.dueIn("seen: saying unknown, outside, full", x -> x.seen(0, 0, 8, 2), UNKNOWN);
        full.dueIn("seen: unknown, full", x -> x.seen(6, 0, 1, 1), UNKNOWN);
        full.dueIn("seen: outside, full", x -> x.seen(0, 0, 1, 2), OUTSIDE);
        full.dueIn("palms: step unknown, outside", x -> x.palms(12, 0, 7, 11, 2), UNKNOWN);
        full.dueIn("palms: height unknown, outside", x -> x.palms(0, 2, 7, 11, 2), UNKNOWN);
        RefusedTest fresh = new RefusedTest("new", BanisterWord::new);
        fresh.dueIn("back: unknown, nothing kept", x -> x.back(2), UNKNOWN);
        fresh.dueIn("as: unknown, none such", x -> x.as(0, 4), UNKNOWN);
    }

    // ---- what only looks

    private void dueLook(String what, ToIntFunction<BanisterWord> call) {
        int want = call.applyAsInt(made.get());
        checks.holds(what + " is answered", want >= NONE || want == NOT);
        dueIn(what, call, want);
    }

    private void onlyLooks() {
        dueLook("fault", BanisterWord::fault);
        for (int what = 0; what <= 9; what++) {
            int w = what;
            dueLook("count", x -> x.count(w));
        }
        for (int saying = 1; saying <= 7; saying++) {
            int t = saying;
            dueLook("lasts", x -> x.lasts(t));
            dueLook("who", x -> x.who(steps - 1, t));
        }
        for (int h = 0; h < 2; h++) {
            int height = h;
            dueLook("rail", x -> x.rail(steps - 1, height, 0));
            dueLook("rail", x -> x.rail(0, height, 1));
            dueLook("cover", x -> x.cover(0, height));
            dueLook("cover", x -> x.cover(steps - 1, height));
            dueLook("palms", x -> x.palms(steps - 1, height, 6, 5, 0));
            dueLook("palms", x -> x.palms(0, height, 3, 10, 1));
        }
        for (int person = 0; person < people; person++) {
            int p = person;
            dueLook("hears", x -> x.hears(p, steps - 1));
            dueLook("person", x -> x.person(p, 2));
            dueLook("as", x -> x.as(p, 1));
            for (int saying = 1; saying <= 7; saying++) {
                int t = saying;
                dueLook("send", x -> x.send(p, t));
                dueLook("said", x -> x.said(p, t));
            }
        }
    }
}
