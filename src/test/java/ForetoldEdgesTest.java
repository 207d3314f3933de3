/** The edges of what is foretold and seen (promises 16 to 25, and the part on what is FORETOLD), a test for each sentence. */
public final class ForetoldEdgesTest {
    private static final int NONE = -1, UNKNOWN = -2, OUTSIDE = -3, FULL = -5;
    private static final int[] FAR = {Integer.MIN_VALUE, Integer.MAX_VALUE};
    private static final int[] NO_SAYING = {0, 8, -1, FAR[0], FAR[1]};
    private static final String LOW_SEVEN = "word 0 0 1 1;word 1 0 2 1;word 2 0 3 1;word 3 0 4 1;word 4 0 5 1;word 5 0 6 1;word 6 0 7 1";
    private static final String HIGH_SEVEN = "word 0 1 1 1;word 1 1 2 1;word 2 1 3 1;word 3 1 4 1;word 4 1 5 1;word 5 1 6 1;word 6 1 7 1";
    private static final String SIX_GUESTS = "guest 1;guest 2;guest 3;guest 4;guest 5;guest 6";

    private static final Checks checks = new Checks();

    public static void main(String[] args) {
        // Promise 16
        checks.by("SAYINGS (bits 1 .. 7) that one would KNOW by going UP to a STEP now", ForetoldEdgesTest::hears);
        checks.by("HEARS. UNKNOWN.", ForetoldEdgesTest::hearsUnknown);
        // Promise 17
        checks.by("behind how many NIGHTS (0 .. 99) a SAYING is nowhere on RAILS first, if nobody goes", ForetoldEdgesTest::lasts);
        checks.by("LASTS. UNKNOWN.", ForetoldEdgesTest::lastsUnknown);
        // Promise 18
        checks.by("PEOPLE (bits, not himself)", ForetoldEdgesTest::notHimself);
        checks.by("the fewest, of as few the least", ForetoldEdgesTest::fewest);
        checks.by("if each of them went UP to the highest STEP first", ForetoldEdgesTest::toTheHighest);
        checks.by("he would not HEAR that SAYING then on his way UP to it", ForetoldEdgesTest::wouldNotHear);
        checks.by("SEND; NONE. UNKNOWN.", ForetoldEdgesTest::sendNoneAndUnknown);
        // Promise 19
        checks.by("PEOPLE (bits) of whom each could, by one SAYING that is not there, have that one there instead, or nothing", ForetoldEdgesTest::cover);
        checks.by("(none are, if nothing is there)", ForetoldEdgesTest::coverOfNothing);
        checks.by("COVER. UNKNOWN.", ForetoldEdgesTest::coverUnknown);
        // Promises 20 and 21
        checks.by("SEEN, 6 at most", ForetoldEdgesTest::sixSeen);
        checks.by("SEEN: how many. UNKNOWN; OUTSIDE (heard 0, 1); FULL.", ForetoldEdgesTest::seenRefused);
        checks.by("SEEN is nothing: how many there were.", ForetoldEdgesTest::forget);
        // Promises 22 and 23
        checks.by("one who went UP to a STEP HEARD a SAYING (1), or not (0)", ForetoldEdgesTest::heardOrNot);
        checks.by("STEPS (bits) such that, had he just SAID it there, all that is SEEN would be so", ForetoldEdgesTest::said);
        checks.by("(each from how it would be then, by itself)", ForetoldEdgesTest::byItself);
        checks.by("SAID, by bits. UNKNOWN.", ForetoldEdgesTest::saidUnknown);
        checks.by("PEOPLE (bits) likewise", ForetoldEdgesTest::who);
        checks.by("WHO, by bits. UNKNOWN.", ForetoldEdgesTest::whoUnknown);
        // Promise 24
        checks.by("is there behind n DAYS (0 .. 6), if on each of them a palm takes 1 of it by q of ten (0 .. 10), by itself, ahead of the NIGHT", ForetoldEdgesTest::palms);
        checks.by("(nothing there: it is not)", ForetoldEdgesTest::palmsOnNothing);
        checks.by("Parts are told in lowest terms: above (part 0), below (1).", ForetoldEdgesTest::lowestTerms);
        checks.by("PALMS. UNKNOWN; OUTSIDE.", ForetoldEdgesTest::palmsRefused);
        // Promise 25
        checks.by("0 STEPS", ForetoldEdgesTest::countSteps);
        checks.by("1 PEOPLE", ForetoldEdgesTest::countPeople);
        checks.by("2 the DAY", ForetoldEdgesTest::countDay);
        checks.by("3 RAILS (of a STEP and a HEIGHT) with a SAYING, 4 how FIRM all are together", ForetoldEdgesTest::countRails);
        checks.by("5 SAYINGS that anybody KNOWS (bits)", ForetoldEdgesTest::countKnown);
        checks.by("6 SAYINGS on RAILS (bits)", ForetoldEdgesTest::countSayings);
        checks.by("7 SEEN", ForetoldEdgesTest::countSeen);
        checks.by("8 how many can be undone", ForetoldEdgesTest::countUndo);
        checks.by("9 letters of THE TEXT. OUTSIDE.", ForetoldEdgesTest::countLetters);
        checks.end();
    }

    private static void due(String what, long got, long want) {
        checks.due(what, got, want);
    }

    private static int[] besides(int least, int most) {
        return new int[] {least - 1, most + 1, FAR[0], FAR[1]};
    }

    // ---- promise 16

    private static void hears() {
        BanisterWord x = Checks.house("guest 1;child 1;gloved 9;maid 9", LOW_SEVEN, HIGH_SEVEN);
        for (int step = 0; step < 8; step++) {
            int all = Math.min(254, (1 << step + 2) - 2);
            due("a guest to " + step, x.hears(0, step), all);
            due("a child to " + step, x.hears(1, step), all);
            due("a gloved one to " + step, x.hears(2, step), 0);
            due("a maid to " + step, x.hears(3, step), 0);
        }
        x.up(0, 2);
        due("what he knows, but is not there now", x.hears(0, 7), 254 - 14);
        due("low it is there yet", x.hears(1, 7), 254);
        x.night();
        due("nothing is there", x.hears(1, 7), 0);
        BanisterWord y = Checks.house("guest 1;child 1;word 0 0 1 1;word 0 1 7 1;word 3 1 7 1");
        due("high only", y.hears(0, 0), 128);
        due("low only", y.hears(1, 0), 2);
        due("the same twice", y.hears(0, 7), 128);
        for (int steps : new int[] {2, 12}) {
            BanisterWord z = Checks.house("stair " + steps + ";guest 1;word " + (steps - 1) + " 1 7 1");
            due("one below", z.hears(0, steps - 2), 0);
            due("the highest", z.hears(0, steps - 1), 128);
        }
    }

    private static void hearsUnknown() {
        for (int steps : new int[] {2, 12}) {
            BanisterWord x = Checks.house("stair " + steps + ";guest 1;maid 1");
            for (int step : besides(0, steps - 1)) {
                due("step " + step, x.hears(0, step), UNKNOWN);
                due("a maid, step " + step, x.hears(1, step), UNKNOWN);
            }
            for (int person : besides(0, 1)) {
                due("person " + person, x.hears(person, 0), UNKNOWN);
            }
        }
    }

    // ---- promise 17

    private static void dueLasts(BanisterWord x, int saying, int want) {
        due("lasts(" + saying + ")", x.lasts(saying), want);
        for (int night = 1; night <= want; night++) {
            due("there ahead of night " + night, x.count(6) >> saying & 1, 1);
            x.night();
            due("left behind night " + night, x.lasts(saying), want - night);
        }
        due("nowhere then", x.count(6) >> saying & 1, 0);
    }

    private static void lasts() {
        dueLasts(new BanisterWord(), 1, 0);
        for (int firm = 1; firm <= 20; firm++) {
            dueLasts(Checks.house("stair 12;word 11 1 1 1;word 0 0 7 " + firm + ";word 11 0 6 20"), 7, firm);
        }
        dueLasts(Checks.house("stair 12;word 0 0 1 3;word 11 1 1 5"), 1, 5);
        dueLasts(Checks.house("stair 12;word 0 1 1 3;word 11 0 1 5;word 5 1 1 4"), 1, 5);
        for (int kind = 0; kind < 2; kind++) {
            BanisterWord x = Checks.house(kind == 0 ? "guest 9;guest 8" : "child 9;child 4");
            for (int i = 0; i < (kind == 0 ? 10 : 5); i++) {
                x.down(0, 7, 4);
            }
            x.down(1, 7, 4);
            due("98", x.lasts(4), 98);
            x.down(0, 7, 4);
            dueLasts(x, 4, 99);
        }
    }

    private static void lastsUnknown() {
        BanisterWord x = Checks.house("word 0 0 1 1;word 0 1 7 2");
        for (int saying : NO_SAYING) {
            due("saying " + saying, x.lasts(saying), UNKNOWN);
        }
        due("the least", x.lasts(1), 1);
        due("the greatest", x.lasts(7), 2);
    }

    // ---- promise 18

    private static void notHimself() {
        BanisterWord x = Checks.house(SIX_GUESTS + ";word 0 1 1 1;word 1 1 2 5;word 2 1 3 6");
        for (int person = 0; person < 6; person++) {
            due("one for " + person, x.send(person, 1), person == 0 ? 2 : 1);
            due("five for " + person, x.send(person, 2), 63 - (1 << person));
            due("six for " + person, x.send(person, 3), NONE);
        }
        BanisterWord y = Checks.house("guest 9;word 0 1 1 1");
        due("alone", y.send(0, 1), NONE);
    }

    private static void fewest() {
        for (int firm = 1; firm <= 5; firm++) {
            BanisterWord x = Checks.house(SIX_GUESTS + ";word 3 1 4 " + firm);
            due("for the last, firm by " + firm, x.send(5, 4), (1 << firm) - 1);
            due("for the first, firm by " + firm, x.send(0, 4), (1 << firm + 1) - 2);
        }
        BanisterWord y = Checks.house("maid 9;gloved 9;child 9;guest 1;guest 9;guest 9;word 0 1 1 1;word 0 1 2 2;word 1 1 1 1");
        due("maid, gloved and child take nothing high", y.send(5, 2), 8 | 16);
        due("of as few the least", y.send(5, 1), 8);
        due("not himself, so the next", y.send(3, 1), 16);
        BanisterWord z = Checks.house("guest 1;child 1;guest 1;child 1;child 1;word 0 0 1 2;word 0 1 2 1");
        due("children low", z.send(1, 1), 8 | 16);
        due("children low, the least", z.send(4, 1), 2 | 8);
        due("a guest high", z.send(2, 2), 1);
        BanisterWord w = Checks.house(SIX_GUESTS + ";word 0 1 1 1;word 4 1 1 3;word 7 1 1 2;word 6 0 1 9");
        due("as many as where it is firmest, high", w.send(5, 1), 7);
    }

    private static void toTheHighest() {
        for (int steps : new int[] {2, 12}) {
            BanisterWord x = Checks.house("stair " + steps + ";guest 1;guest 1;word " + (steps - 1) + " 1 5 1");
            due("on the highest", x.send(0, 5), 2);
            BanisterWord y = Checks.house("stair " + steps + ";guest 1;guest 1;word 0 1 5 1");
            due("on the lowest", y.send(1, 5), 1);
        }
    }

    private static void wouldNotHear() {
        BanisterWord x = Checks.house("guest 1;child 1;gloved 1;maid 1;word 0 1 1 20;word 1 0 2 20;word 2 0 7 1");
        due("nowhere", x.send(0, 3), 0);
        due("low alone", x.send(0, 2), 0);
        due("high alone", x.send(1, 1), 0);
        due("the greatest saying, nowhere high", x.send(0, 7), 0);
        for (int saying = 1; saying <= 7; saying++) {
            due("gloved", x.send(2, saying), 0);
            due("maid", x.send(3, saying), 0);
        }
        x.up(0, 7);
        due("he knows it, but would hear it yet", x.send(0, 1), NONE);
        x.polish(0);
        due("gone", x.send(0, 1), 0);
    }

    private static void sendNoneAndUnknown() {
        BanisterWord x = Checks.house("guest 1;guest 1;child 1;word 0 1 1 1;word 1 1 7 2;word 0 0 4 1");
        due("one", x.send(0, 1), 2);
        due("one is too few", x.send(0, 7), NONE);
        due("no other child", x.send(2, 4), NONE);
        for (int saying : NO_SAYING) {
            due("saying " + saying, x.send(0, saying), UNKNOWN);
        }
        for (int person : besides(0, 2)) {
            due("person " + person, x.send(person, 1), UNKNOWN);
            due("person " + person + ", no saying", x.send(person, 0), UNKNOWN);
        }
    }

    // ---- promise 19

    private static void cover() {
        for (int firm = 1; firm <= 20; firm++) {
            BanisterWord x = Checks.house("guest 1;guest 9;child 9;gloved 9;maid 9;gloved 1;word 7 1 3 " + firm + ";word 7 0 3 " + firm);
            int high = (firm <= 1 ? 1 : 0) | (firm <= 9 ? 2 : 0) | (firm <= 4 ? 8 : 0);
            due("high, firm by " + firm, x.cover(7, 1), high);
            due("low, firm by " + firm, x.cover(7, 0), firm <= 18 ? 4 : 0);
        }
        BanisterWord y = Checks.house(SIX_GUESTS + ";word 0 1 7 1;word 1 1 7 6;word 2 1 7 7;word 3 0 1 1");
        due("all six", y.cover(0, 1), 63);
        due("the warmest", y.cover(1, 1), 32);
        due("too firm for all", y.cover(2, 1), 0);
        due("no child", y.cover(3, 0), 0);
        due("nobody at all", Checks.house("word 0 1 1 1").cover(0, 1), 0);
    }

    private static void coverOfNothing() {
        BanisterWord x = Checks.house(SIX_GUESTS + ";word 0 0 1 1;word 1 1 1 1");
        due("nothing high", x.cover(0, 1), 0);
        due("nothing on the step", x.cover(7, 1), 0);
        due("something", x.cover(1, 1), 63);
        x.night();
        due("cooled to nothing", x.cover(1, 1), 0);
    }

    private static void coverUnknown() {
        for (int steps : new int[] {2, 12}) {
            BanisterWord x = Checks.house("stair " + steps + ";guest 9;word " + (steps - 1) + " 1 1 1");
            due("the highest", x.cover(steps - 1, 1), 1);
            for (int step : besides(0, steps - 1)) {
                due("step " + step, x.cover(step, 1), UNKNOWN);
            }
            for (int height : besides(0, 1)) {
                due("height " + height, x.cover(0, height), UNKNOWN);
            }
        }
    }

    // ---- promises 20 and 21

    private static void sixSeen() {
        BanisterWord x = Checks.house("guest 1;word 0 1 1 1");
        for (int i = 1; i <= 6; i++) {
            due("seen " + i, x.seen(0, 0, 1, 1), i);
            due("count " + i, x.count(7), i);
        }
        due("a seventh", x.seen(0, 0, 1, 0), FULL);
        due("six yet", x.count(7), 6);
        due("the seventh is not taken in", x.said(0, 1), 255);
        x.forget();
        due("room again", x.seen(0, 0, 1, 0), 1);
        // Each of the six counts: the one that is not so may be the first or the last of them.
        for (int place = 0; place < 6; place++) {
            BanisterWord y = Checks.house("guest 1;word 0 1 1 9");
            for (int i = 0; i < 6; i++) {
                y.seen(0, 0, 1, i == place ? 0 : 1);
            }
            due("not so in place " + place, y.said(0, 1), 0);
        }
    }

    private static void seenRefused() {
        for (int had = 0; had <= 6; had += 6) {
            BanisterWord x = Checks.house("stair 12;guest 1;maid 1");
            for (int i = 0; i < had; i++) {
                x.seen(0, 0, 1, 0);
            }
            for (int person : besides(0, 1)) {
                due("person " + person, x.seen(person, 0, 1, 2), UNKNOWN);
            }
            for (int step : besides(0, 11)) {
                due("step " + step, x.seen(0, step, 1, 2), UNKNOWN);
            }
            for (int saying : NO_SAYING) {
                due("saying " + saying, x.seen(0, 0, saying, 2), UNKNOWN);
            }
            for (int heard : besides(0, 1)) {
                due("heard " + heard, x.seen(0, 0, 1, heard), OUTSIDE);
            }
            due("as many as before", x.count(7), had);
            due("the greatest of all", x.seen(1, 11, 7, 1), had == 6 ? FULL : 1);
            due("the least of all", x.seen(0, 0, 1, 0), had == 6 ? FULL : 2);
        }
    }

    private static void forget() {
        for (int many = 0; many <= 6; many++) {
            BanisterWord x = Checks.house("guest 1");
            for (int i = 0; i < many; i++) {
                x.seen(0, 0, 1, 1);
            }
            due("forget()", x.forget(), many);
            due("seen then", x.count(7), 0);
            due("forget() again", x.forget(), 0);
            due("all would be so", x.said(0, 2), 255);
        }
    }

    // ---- promises 22 and 23

    private static void heardOrNot() {
        for (int step = 0; step < 8; step++) {
            for (int heard = 0; heard < 2; heard++) {
                BanisterWord x = Checks.house("guest 5;child 5;gloved 5;maid 5");
                x.seen(0, step, 4, heard);
                int below = (1 << step + 1) - 1;
                due("a guest's, to " + step + ", " + heard, x.said(0, 4), heard == 1 ? below : 255 - below);
                due("a child's", x.said(1, 4), heard == 1 ? 0 : 255);
                due("a gloved one's", x.said(2, 4), heard == 1 ? below : 255 - below);
                due("a maid's", x.said(3, 4), heard == 1 ? 0 : 255);
                due("another saying", x.said(0, 5), heard == 1 ? 0 : 255);
            }
        }
        for (int person = 2; person < 4; person++) {
            BanisterWord y = Checks.house("guest 5;child 5;gloved 5;maid 5;word 0 1 4 9;word 0 0 4 9");
            y.seen(person, 7, 4, 0);
            due("they hear nothing, which is so", y.said(0, 4), 255);
            y.seen(person, 7, 4, 1);
            due("that they heard is never so", y.said(0, 4), 0);
        }
    }

    private static void said() {
        for (int steps = 2; steps <= 12; steps++) {
            BanisterWord x = Checks.house("stair " + steps + ";guest 1;maid 1");
            due("nothing is seen", x.said(0, 1), (1 << steps) - 1);
            due("nothing is seen, a maid", x.said(1, 7), (1 << steps) - 1);
            x.seen(0, steps - 1, 7, 1);
            due("anywhere", x.said(0, 7), (1 << steps) - 1);
            x.seen(0, steps - 2, 7, 0);
            due("on the highest", x.said(0, 7), 1 << steps - 1);
            x.forget();
            x.seen(0, 0, 7, 1);
            due("on the lowest", x.said(0, 7), 1);
            x.seen(0, 0, 7, 0);
            due("nowhere", x.said(0, 7), 0);
        }
        BanisterWord y = Checks.house("guest 3;guest 1;word 2 1 5 2;word 3 1 5 3;word 4 1 5 4;word 5 1 6 1");
        y.seen(1, 7, 6, 1);
        due("it is there already", y.said(0, 6), 255);
        due("unless he says over it", y.said(0, 1), 255 - 32);
        y.forget();
        y.seen(1, 7, 1, 1);
        due("only where it is firm enough to be there", y.said(0, 1), 0b11100111);
    }

    private static void byItself() {
        BanisterWord x = Checks.house("guest 1;guest 2");
        for (int i = 0; i < 6; i++) {
            x.seen(i % 2, 7, 3, 1);
        }
        due("firm by 1, heard six times", x.said(0, 3), 255);
        due("nobody knows by it", x.count(5), 0);
        due("nothing is said by it", x.count(4), 0);
        x.down(0, 2, 3);
        x.forget();
        x.seen(0, 2, 3, 0);
        due("from how it would be then", x.said(0, 3), 0);
        due("said over by another", x.said(1, 4), 4);
    }

    private static void saidUnknown() {
        BanisterWord x = Checks.house("guest 1;maid 1");
        for (int person : besides(0, 1)) {
            due("person " + person, x.said(person, 1), UNKNOWN);
        }
        for (int saying : NO_SAYING) {
            due("saying " + saying, x.said(0, saying), UNKNOWN);
        }
        due("the least", x.said(0, 1), 255);
        due("the greatest", x.said(1, 7), 255);
    }

    private static void who() {
        StringBuilder text = new StringBuilder("clean");
        for (int many = 0; many <= 6; many++) {
            BanisterWord x = Checks.house(text.toString());
            due("nothing is seen, of " + many, x.who(7, 7), (1 << many) - 1);
            text.append(";guest 1");
        }
        BanisterWord y = Checks.house("guest 3;child 3;gloved 9;maid 9;guest 2;gloved 1;word 0 1 5 2;word 0 0 5 5");
        y.seen(0, 0, 1, 1);
        due("firmer than what is there", y.who(0, 1), 1 | 4);
        due("where nothing is, but above", y.who(1, 1), 0);
        y.forget();
        y.seen(0, 1, 1, 1);
        due("where nothing is", y.who(1, 1), 1 | 4 | 16);
        y.forget();
        y.seen(4, 0, 5, 0);
        due("as firm is enough", y.who(0, 7), 1 | 4 | 16);
        y.forget();
        y.seen(1, 0, 5, 0);
        due("a child", y.who(0, 7), 2);
        y.seen(1, 0, 7, 0);
        due("of whom 1 is left", y.who(0, 7), 0);
        y.forget();
        y.seen(0, 7, 5, 1);
        due("those who change nothing, too", y.who(0, 1), 2 | 8 | 32);
    }

    private static void whoUnknown() {
        for (int steps : new int[] {2, 12}) {
            BanisterWord x = Checks.house("stair " + steps + ";guest 1");
            for (int step : besides(0, steps - 1)) {
                due("step " + step, x.who(step, 1), UNKNOWN);
            }
            for (int saying : NO_SAYING) {
                due("saying " + saying, x.who(0, saying), UNKNOWN);
            }
            due("the least", x.who(0, 1), 1);
            due("the greatest", x.who(steps - 1, 7), 1);
        }
    }

    // ---- promise 24

    /** Of ten to the days equal courses, in how many something is left: gone through day by day. */
    private static long courses(int firm, int days, int q) {
        if (firm <= 0) {
            return 0;
        }
        return days == 0 ? 1 : q * courses(firm - 2, days - 1, q) + (10 - q) * courses(firm - 1, days - 1, q);
    }

    private static void palms() {
        for (int firm = 1; firm <= 20; firm++) {
            BanisterWord x = Checks.house("word 7 " + firm % 2 + " 3 " + firm);
            for (int n = 0; n <= 6; n++) {
                for (int q = 0; q <= 10; q++) {
                    long above = x.palms(7, firm % 2, n, q, 0);
                    long below = x.palms(7, firm % 2, n, q, 1);
                    due("firm " + firm + ", n " + n + ", q " + q, above * Math.round(Math.pow(10, n)), courses(firm, n, q) * below);
                }
            }
        }
        BanisterWord y = Checks.house("word 0 1 1 1;word 1 1 1 2;word 2 1 1 3;word 6 1 1 6;word 7 1 1 7;word 3 1 1 12;word 4 1 1 13");
        due("no day", y.palms(0, 1, 0, 10, 0), 1);
        due("one night takes 1", y.palms(0, 1, 1, 0, 0), 0);
        due("one night leaves 1 of 2", y.palms(1, 1, 1, 0, 0), 1);
        due("a palm and a night take 2", y.palms(1, 1, 1, 10, 0), 0);
        due("a palm and a night leave 1 of 3", y.palms(2, 1, 1, 10, 0), 1);
        due("six nights take 6", y.palms(6, 1, 6, 0, 0), 0);
        due("six nights leave 1 of 7", y.palms(7, 1, 6, 0, 0), 1);
        due("six palms and nights take 12", y.palms(3, 1, 6, 10, 0), 0);
        due("six palms and nights leave 1 of 13", y.palms(4, 1, 6, 10, 0), 1);
        BanisterWord z = Checks.house("guest 9");
        for (int i = 0; i < 11; i++) {
            z.down(0, 0, 1);
        }
        due("firm by 99", z.palms(0, 1, 6, 9, 0), 1);
        due("firm by 99, below", z.palms(0, 1, 6, 9, 1), 1);
    }

    private static void palmsOnNothing() {
        BanisterWord x = Checks.house("word 0 1 1 20");
        for (int n = 0; n <= 6; n++) {
            for (int q = 0; q <= 10; q++) {
                due("above", x.palms(0, 0, n, q, 0), 0);
                due("below", x.palms(0, 0, n, q, 1), 1);
            }
        }
    }

    private static void dueParts(BanisterWord x, int n, int q, int above, int below) {
        due("above of n " + n + ", q " + q, x.palms(0, 1, n, q, 0), above);
        due("below of n " + n + ", q " + q, x.palms(0, 1, n, q, 1), below);
    }

    private static void lowestTerms() {
        dueParts(Checks.house("word 0 1 1 2"), 1, 5, 1, 2);
        dueParts(Checks.house("word 0 1 1 2"), 1, 3, 7, 10);
        dueParts(Checks.house("word 0 1 1 2"), 1, 2, 4, 5);
        dueParts(Checks.house("word 0 1 1 2"), 1, 0, 1, 1);
        dueParts(Checks.house("word 0 1 1 2"), 1, 10, 0, 1);
        dueParts(Checks.house("word 0 1 1 2"), 2, 5, 0, 1);
        dueParts(Checks.house("word 0 1 1 7"), 6, 5, 1, 64);
        dueParts(Checks.house("word 0 1 1 7"), 6, 9, 1, 1000000);
        dueParts(Checks.house("word 0 1 1 7"), 6, 1, 531441, 1000000);
        dueParts(Checks.house("word 0 1 1 12"), 6, 9, 468559, 1000000);
        dueParts(Checks.house("word 0 1 1 12"), 6, 1, 999999, 1000000);
        for (int firm = 1; firm <= 13; firm++) {
            BanisterWord x = Checks.house("word 0 1 1 " + firm);
            for (int n = 0; n <= 6; n++) {
                for (int q = 0; q <= 10; q++) {
                    int above = x.palms(0, 1, n, q, 0);
                    int below = x.palms(0, 1, n, q, 1);
                    checks.holds("no 2 in both", above % 2 != 0 || below % 2 != 0);
                    checks.holds("no 5 in both", above % 5 != 0 || below % 5 != 0);
                }
            }
        }
    }

    private static void palmsRefused() {
        for (int steps : new int[] {2, 12}) {
            BanisterWord x = Checks.house("stair " + steps + ";word " + (steps - 1) + " 1 1 20");
            due("the greatest of all", x.palms(steps - 1, 1, 6, 10, 1), 1);
            due("the least of all", x.palms(0, 0, 0, 0, 0), 0);
            for (int step : besides(0, steps - 1)) {
                due("step " + step, x.palms(step, 1, 0, 0, 0), UNKNOWN);
                due("step " + step + " first", x.palms(step, 1, 7, 11, 2), UNKNOWN);
            }
            for (int height : besides(0, 1)) {
                due("height " + height, x.palms(0, height, 0, 0, 0), UNKNOWN);
                due("height " + height + " first", x.palms(0, height, -1, -1, -1), UNKNOWN);
            }
            for (int n : besides(0, 6)) {
                due("n " + n, x.palms(0, 1, n, 0, 0), OUTSIDE);
            }
            for (int q : besides(0, 10)) {
                due("q " + q, x.palms(0, 1, 0, q, 0), OUTSIDE);
            }
            for (int part : besides(0, 1)) {
                due("part " + part, x.palms(0, 1, 0, 0, part), OUTSIDE);
            }
        }
    }

    // ---- promise 25

    private static void countSteps() {
        due("at first", new BanisterWord().count(0), 8);
        for (int steps = 2; steps <= 12; steps++) {
            due("told", Checks.house("stair " + steps).count(0), steps);
        }
    }

    private static void countPeople() {
        StringBuilder text = new StringBuilder("clean");
        for (int many = 0; many <= 6; many++) {
            due("told", Checks.house(text.toString()).count(1), many);
            text.append(";maid 1");
        }
    }

    private static void countDay() {
        BanisterWord x = new BanisterWord();
        due("at first", x.count(2), 0);
        for (int day = 1; day <= 250; day++) {
            x.night();
            due("a night later", x.count(2), day);
        }
    }

    /** All 24 rails firm by 99: the most that there can be, in fewer than 512 calls. */
    private static void countRails() {
        BanisterWord x = Checks.house("stair 12;guest 9;child 9");
        due("none", x.count(3), 0);
        due("firm by nothing", x.count(4), 0);
        for (int step = 0; step < 12; step++) {
            for (int i = 0; i < 11; i++) {
                x.down(0, step, 1);
            }
            for (int i = 0; i < 6; i++) {
                x.down(1, step, 7);
            }
            due("rails up to " + step, x.count(3), 2 * step + 2);
            due("firm up to " + step, x.count(4), 99 * (2 * step + 2));
        }
        x.night();
        due("all are there yet", x.count(3), 24);
        due("all are less firm", x.count(4), 24 * 98);
        x.polish(11);
        due("without the highest", x.count(3), 22);
        due("firm without the highest", x.count(4), 22 * 98);
    }

    private static void countKnown() {
        BanisterWord x = Checks.house("guest 1;child 1;guest 1;guest 1;guest 1;child 1", LOW_SEVEN, HIGH_SEVEN);
        due("nothing", x.count(5), 0);
        x.up(5, 0);
        due("by the last of six", x.count(5), 2);
        x.up(0, 6);
        due("all seven", x.count(5), 254);
        BanisterWord y = Checks.house("guest 1;child 1;word 0 0 1 1;word 7 1 7 1");
        y.up(0, 7);
        y.up(1, 7);
        due("of several together", y.count(5), 2 | 128);
    }

    private static void countSayings() {
        BanisterWord x = Checks.house("stair 12;word 0 0 1 1;word 11 1 7 2");
        due("the least and the greatest", x.count(6), 2 | 128);
        x.night();
        due("the greatest", x.count(6), 128);
        x.night();
        due("nothing", x.count(6), 0);
        due("all seven", Checks.house(HIGH_SEVEN).count(6), 254);
        due("all seven at both heights", Checks.house(HIGH_SEVEN, LOW_SEVEN).count(6), 254);
    }

    private static void countSeen() {
        BanisterWord x = Checks.house("guest 1");
        for (int many = 0; many <= 6; many++) {
            due("seen", x.count(7), many);
            x.seen(0, 0, 1, 1);
        }
        due("six at most", x.count(7), 6);
    }

    private static void countUndo() {
        BanisterWord x = new BanisterWord();
        for (int many = 0; many <= 20; many++) {
            due("undone", x.count(8), Math.min(8, many));
            x.night();
        }
    }

    private static void countLetters() {
        BanisterWord x = new BanisterWord();
        for (int many = 0; many <= 165; many++) {
            due("letters", x.count(9), Math.min(160, many));
            x.write(0);
        }
        for (int what : besides(0, 9)) {
            due("count(" + what + ")", x.count(what), OUTSIDE);
        }
    }
}
