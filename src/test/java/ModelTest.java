import java.util.Random;

/** Long runs of chance calls (always the same ones), each answer held against the model's. */
public final class ModelTest {
    private static final int RUNS = 1500;
    private static final int CALLS = 512;
    private static final String[] STRAY = {"", ";", " ", "word", "x", "7", "123", ".", "\n", "\u00e9", "stair 1", "word 0 0 1"};

    private final Checks checks;
    private final Random chance;
    private final int run;
    private final BanisterWord x = new BanisterWord();
    private final Model model = new Model();
    private int calls;

    private ModelTest(Checks checks, int run) {
        this.checks = checks;
        this.run = run;
        this.chance = new Random(run);
    }

    public static void main(String[] args) {
        Checks checks = new Checks();
        for (int run = 0; run < RUNS; run++) {
            ModelTest test = new ModelTest(checks, run);
            test.tell();
            while (test.calls < CALLS) {
                test.call();
            }
        }
        checks.end();
    }

    private void due(String call, int got, int want) {
        calls++;
        checks.due("run " + run + ", call " + calls + ": " + call, got, want);
    }

    private int under(int n) {
        return chance.nextInt(n);
    }

    /** Mostly from..to, now and then a little or far outside. */
    private int about(int from, int to) {
        switch (under(40)) {
            case 0: return from - 1;
            case 1: return to + 1;
            case 2: return under(2) == 0 ? Integer.MIN_VALUE : Integer.MAX_VALUE;
            default: return from + under(to - from + 1);
        }
    }

    private int anyPerson() { return about(0, Math.max(0, model.count(1) - 1)); }

    private int anyStep() { return about(0, model.count(0) - 1); }

    private int anySaying() { return about(1, under(2) == 0 ? 3 : 7); }

    private String clause() {
        switch (under(12)) {
            case 0: return "stair " + about(2, 12);
            case 1: return "clean";
            case 2: case 3: return "guest " + about(1, 9);
            case 4: return "child " + about(1, 9);
            case 5: return "gloved" + about(1, 9);
            case 6: return " maid  " + about(1, 9);
            default: return "word " + about(0, model.count(0) - 1) + " " + under(2) + " " + about(1, 5) + " " + about(1, under(2) == 0 ? 4 : 20);
        }
    }

    private void writeText() {
        StringBuilder text = new StringBuilder(clause());
        for (int more = under(under(5) == 0 ? 16 : 9); more > 0; more--) {
            text.append(under(40) == 0 ? STRAY[under(STRAY.length)] : ";").append(clause());
        }
        if (under(12) == 0) {
            text.insert(under(text.length() + 1), STRAY[under(STRAY.length)]);
        }
        for (int i = 0; i < text.length(); i++) {
            due("write " + text.charAt(i), x.write(text.charAt(i)), model.write(text.charAt(i)));
        }
    }

    private void tell() {
        writeText();
        due("fault", x.fault(), model.fault());
        due("house", x.house(), model.house());
        if (model.count(9) > 0 && under(3) > 0) {
            due("erase", x.erase(), model.erase());
        }
        lookAtAll();
    }

    private void lookAtAll() {
        for (int what = -1; what <= 10; what++) {
            due("count " + what, x.count(what), model.count(what));
        }
        int had = calls;
        for (int s = 0; s < 12; s++) {
            for (int i = 0; i < 4; i++) {
                due("rail " + s + " " + i, x.rail(s, i / 2, i % 2), model.rail(s, i / 2, i % 2));
            }
        }
        // Looks at the rails are the test's, not the run's.
        calls = had;
    }

    private void call() {
        switch (under(13)) {
            case 0: case 1: case 2: case 3: callDoing(); break;
            case 4: callKeeping(); break;
            case 5: case 6: callForetold(); break;
            case 7: case 8: case 9: callSeen(); break;
            case 10: case 11: callState(); break;
            default: if (under(6) == 0) tell(); else callText();
        }
    }

    private void callText() {
        int letter = about(0, 255);
        switch (under(3)) {
            case 0: due("write " + letter, x.write(letter), model.write(letter)); break;
            case 1: due("fault", x.fault(), model.fault()); break;
            default: due("erase", x.erase(), model.erase());
        }
    }

    private void callDoing() {
        int p = anyPerson(), s = anyStep(), t = anySaying();
        switch (under(9)) {
            case 0: case 1: case 2: case 3: due("down " + p + " " + s + " " + t, x.down(p, s, t), model.down(p, s, t)); break;
            case 4: case 5: case 6: due("up " + p + " " + s, x.up(p, s), model.up(p, s)); break;
            case 7: due("night", x.night(), model.night()); break;
            default: due("polish " + s, x.polish(s), model.polish(s));
        }
        if (under(6) == 0) lookAtAll();
    }

    private void callKeeping() {
        int k = about(0, 1);
        switch (under(5)) {
            case 0: due("keep " + k, x.keep(k), model.keep(k)); break;
            case 1: due("back " + k, x.back(k), model.back(k)); break;
            default:
                for (int i = under(10); i >= 0; i--) due("undo", x.undo(), model.undo());
        }
        if (under(2) == 0) lookAtAll();
    }

    private void callForetold() {
        int p = anyPerson(), s = anyStep(), t = anySaying(), h = about(0, 1);
        switch (under(4)) {
            case 0: due("hears " + p + " " + s, x.hears(p, s), model.hears(p, s)); break;
            case 1: due("lasts " + t, x.lasts(t), model.lasts(t)); break;
            case 2: due("send " + p + " " + t, x.send(p, t), model.send(p, t)); break;
            default: due("cover " + s + " " + h, x.cover(s, h), model.cover(s, h));
        }
    }

    private void callSeen() {
        int p = anyPerson(), s = anyStep(), t = anySaying(), heard = about(0, 1);
        switch (under(12)) {
            case 0: case 1: case 2: due("seen " + p + " " + s + " " + t + " " + heard, x.seen(p, s, t, heard), model.seen(p, s, t, heard)); break;
            case 3: due("forget", x.forget(), model.forget()); break;
            case 4: case 5: case 6: case 7: due("said " + p + " " + t, x.said(p, t), model.said(p, t)); break;
            default: due("who " + s + " " + t, x.who(s, t), model.who(s, t));
        }
    }

    private void callState() {
        int p = anyPerson(), s = anyStep(), h = about(0, 1), n = about(0, 6), q = about(0, 10), part = about(0, 1);
        int what = about(0, 9), kind = about(0, 4);
        switch (under(5)) {
            case 0: due("person " + p + " " + what, x.person(p, what), model.person(p, what)); break;
            case 1: due("rail " + s + " " + h + " " + what, x.rail(s, h, what), model.rail(s, h, what)); break;
            case 2: due("as " + p + " " + kind, x.as(p, kind), model.as(p, kind)); break;
            case 3: due("count " + what, x.count(what), model.count(what)); break;
            default: due("palms " + s + " " + h + " " + n + " " + q + " " + part, x.palms(s, h, n, q, part), model.palms(s, h, n, q, part));
        }
    }
}
