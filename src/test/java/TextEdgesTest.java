/** The edges of what is told (promises 1 to 5, and THE TEXT under Terms), a test for each sentence. */
public final class TextEdgesTest {
    private static final int NONE = -1, UNKNOWN = -2, OUTSIDE = -3, NOT = -4, FULL = -5;
    private static final String[] KINDS = {"guest", "child", "gloved", "maid"};
    private static final String[] WORDS = {"stair", "guest", "child", "gloved", "maid", "word", "clean"};
    private static final String SIX_PEOPLE = "maid 3;maid 3;maid 3;maid 3;maid 3;maid 3";
    /** Fourteen clauses in a hundred and sixty letters: both limits at once. */
    private static final String FULL_TEXT = "clean;clean;clean" + ";word 0 0 1 1".repeat(10) + ";word 7 1 7 9";

    private static final Checks checks = new Checks();

    public static void main(String[] args) {
        // Promise 1
        checks.by("A stair of eight steps, nobody.", TextEdgesTest::newObject);
        checks.by("8 at first", TextEdgesTest::eightAtFirst);
        checks.by("6 at most (none at first)", TextEdgesTest::sixAtMost);
        // Promise 2
        checks.by("A letter (its number, 0 .. 255) more of THE TEXT", TextEdgesTest::letterBounds);
        checks.by("THE TEXT is a row of letters, 160 at most", TextEdgesTest::letters160);
        // Promise 3
        checks.by("THE TEXT is empty: how many letters it had.", TextEdgesTest::erase);
        // Promise 4
        checks.by("The place of the FAULT (the letter with which the TOKEN begins, or the length); NONE.", TextEdgesTest::places);
        checks.by("CLAUSES with ; between", TextEdgesTest::between);
        checks.by("14 at most", TextEdgesTest::clauses14);
        checks.by("each is one of: stair N. guest W. child W. gloved W. maid W. word S H T F. clean.", TextEdgesTest::forms);
        checks.by("(As written here, without points;", TextEdgesTest::asWritten);
        checks.by("(n 2 ..", TextEdgesTest::stairBounds);
        checks.by("of WARMTH (1 .. 9)", TextEdgesTest::warmthBounds);
        checks.by("a seventh cannot stand there (at its word)", TextEdgesTest::seventh);
        checks.by("on STEP S (0 .. n less 1)", TextEdgesTest::wordStep);
        checks.by("at HEIGHT H (0, 1)", TextEdgesTest::wordHeight);
        checks.by("there is SAYING T (1 .. 7)", TextEdgesTest::wordSaying);
        checks.by("FIRM by F (1 .. 20)", TextEdgesTest::wordFirm);
        checks.by("small letters a .. z", TextEdgesTest::smallLetters);
        checks.by("numbers of 1 or 2 digits", TextEdgesTest::digits);
        checks.by("blanks between", TextEdgesTest::blanks);
        checks.by("(a row of small letters, a row of digits, any other letter)", TextEdgesTest::tokens);
        checks.by("A FAULT is at the first TOKEN", TextEdgesTest::firstFault);
        checks.by("(a number out of its bounds, of more digits, also)", TextEdgesTest::moreDigits);
        checks.by("or at the end, if it comes too soon", TextEdgesTest::endTooSoon);
        // Promise 5
        checks.by("THE TEXT's CLAUSES are done, and it is empty then: how many there were.", TextEdgesTest::howMany);
        checks.by("NOT: it has a FAULT.", TextEdgesTest::notWithFault);
        checks.by("stair: N STEPS, no PEOPLE, nothing on RAILS", TextEdgesTest::stairDone);
        checks.by("guest ..: one of PEOPLE more, of WARMTH W", TextEdgesTest::peopleDone);
        checks.by("word: on STEP S (0 .. n less 1) at HEIGHT H (0, 1) there is SAYING T (1 .. 7), FIRM by F (1 .. 20)", TextEdgesTest::wordDone);
        checks.by("clean: nothing on RAILS", TextEdgesTest::cleanDone);
        checks.by("what earlier texts told stays", TextEdgesTest::earlierTexts);
        checks.by("CLAUSES are done in their order.", TextEdgesTest::inOrder);
        checks.by("Behind them it is DAY 0", TextEdgesTest::dayBehind);
        checks.by("RAILS are as told (whatever was said since)", TextEdgesTest::railsBehind);
        checks.by("nobody KNOWS anything", TextEdgesTest::knowsBehind);
        checks.by("nothing is SEEN", TextEdgesTest::seenBehind);
        checks.by("nothing is kept or can be undone", TextEdgesTest::keptBehind);
        checks.end();
    }

    private static void due(String what, long got, long want) {
        checks.due(what, got, want);
    }

    private static void dueFault(String text, int want) {
        dueFaultIn(new BanisterWord(), text, want);
    }

    private static void dueFaultIn(BanisterWord x, String text, int want) {
        Checks.write(x, text);
        due("fault() of '" + text + "'", x.fault(), want);
        due("erase() of '" + text + "'", x.erase(), text.length());
    }

    /** On a stair of so many steps, numbers from least to most stand in the place of #; all others are the fault. */
    private static void dueBounds(int steps, String form, int least, int most) {
        int place = form.indexOf('#');
        for (int number = 0; number <= 99; number++) {
            boolean stands = number >= least && number <= most;
            dueFaultIn(Checks.house("stair " + steps), form.replace("#", "" + number), stands ? NONE : place);
        }
        dueFaultIn(Checks.house("stair " + steps), form.replace("#", "-1"), place);
        dueFaultIn(Checks.house("stair " + steps), form.replace("#", "+" + least), place);
    }

    // ---- promise 1

    private static void newObject() {
        BanisterWord x = new BanisterWord();
        for (int what = 0; what <= 9; what++) {
            due("count(" + what + ")", x.count(what), what == 0 ? 8 : 0);
        }
        for (int step = 0; step < 8; step++) {
            for (int height = 0; height < 2; height++) {
                checks.dueRail("new", x, step, height, NONE, 0);
                due("cover", x.cover(step, height), 0);
            }
            for (int saying = 1; saying <= 7; saying++) {
                due("who", x.who(step, saying), 0);
            }
            due("polish", x.polish(step), 0);
        }
        for (int saying = 1; saying <= 7; saying++) {
            due("lasts", x.lasts(saying), 0);
        }
        BanisterWord y = new BanisterWord();
        due("person(0)", y.person(0, 0), UNKNOWN);
        due("person(-1)", y.person(-1, 0), UNKNOWN);
        due("undo()", y.undo(), NOT);
        due("back(0)", y.back(0), NOT);
        due("back(1)", y.back(1), NOT);
        due("fault()", y.fault(), 0);
        due("house()", y.house(), NOT);
        due("erase()", y.erase(), 0);
        due("forget()", y.forget(), 0);
    }

    private static void eightAtFirst() {
        BanisterWord x = new BanisterWord();
        due("the highest", x.rail(7, 0, 0), NONE);
        due("a ninth", x.rail(8, 0, 0), UNKNOWN);
        due("below the lowest", x.rail(-1, 0, 0), UNKNOWN);
        dueFault("word 7 0 1 1", NONE);
        dueFault("word 8 0 1 1", 5);
        Checks.tell(x, "word 7 0 1 1");
        due("eight yet, if no stair is told", x.count(0), 8);
    }

    private static void sixAtMost() {
        StringBuilder text = new StringBuilder();
        for (int many = 0; many <= 6; many++) {
            BanisterWord x = many == 0 ? new BanisterWord() : Checks.house(text.substring(1));
            due(many + " people", x.count(1), many);
            for (int person = 0; person < many; person++) {
                due("person " + person + " of " + many, x.person(person, 1), person + 1);
            }
            due("one above " + many, x.person(many, 1), UNKNOWN);
            dueFaultIn(x, "guest 1", many < 6 ? NONE : 0);
            text.append(";guest ").append(many + 1);
        }
    }

    // ---- promise 2

    private static void letterBounds() {
        for (int letter = 0; letter <= 255; letter++) {
            BanisterWord x = new BanisterWord();
            due("write(" + letter + ")", x.write(letter), 1);
        }
        for (int letter : new int[] {-1, 256, Integer.MIN_VALUE, Integer.MAX_VALUE, 256 + 'a', 'a' - 256}) {
            BanisterWord x = new BanisterWord();
            due("write(" + letter + ")", x.write(letter), OUTSIDE);
            due("letters", x.count(9), 0);
        }
    }

    private static void letters160() {
        BanisterWord x = new BanisterWord();
        for (int i = 1; i <= 160; i++) {
            due("letter " + i, x.write(i <= 5 ? "clean".charAt(i - 1) : ' '), i);
        }
        due("one too many", x.write('x'), FULL);
        due("still too many", x.write(' '), FULL);
        due("letters", x.count(9), 160);
        due("the refused one is not there", x.fault(), NONE);
        due("the whole text is done", x.house(), 1);
        BanisterWord y = new BanisterWord();
        Checks.write(y, FULL_TEXT);
        due("160 with something in each", y.count(9), 160);
        due("full", y.write(';'), FULL);
        due("no fault in them", y.fault(), NONE);
        due("erased", y.erase(), 160);
        due("room again", y.write('a'), 1);
    }

    // ---- promise 3

    private static void erase() {
        for (int many : new int[] {0, 1, 2, 159, 160}) {
            BanisterWord x = new BanisterWord();
            Checks.write(x, "a".repeat(many));
            due("erase() of " + many, x.erase(), many);
            due("letters then", x.count(9), 0);
            due("fault then", x.fault(), 0);
            due("erase() again", x.erase(), 0);
            Checks.write(x, "clean");
            due("what is written then stands alone", x.fault(), NONE);
        }
    }

    // ---- promise 4

    private static void places() {
        dueFault("x", 0);
        dueFault("clean;longerthananyword 3", 6);
        dueFault("guest 1234567890", 6);
        dueFault(" ".repeat(159) + "?", 159);
        dueFault(" ".repeat(150) + "cleanclean", 150);
        dueFault(" ".repeat(160), 160);
        dueFault(FULL_TEXT, NONE);
        dueFault(FULL_TEXT.substring(0, 159), 159);
        dueFault(FULL_TEXT.substring(0, 158), 158);
        dueFault(FULL_TEXT.substring(0, 159) + "x", 159);
        dueFault(FULL_TEXT.substring(0, 159) + ";", 159);
        dueFault("clean", NONE);
    }

    private static void between() {
        dueFault("clean;clean", NONE);
        dueFault(";", 0);
        dueFault(";clean", 0);
        dueFault("clean;", 6);
        dueFault("clean;;clean", 6);
        dueFault("clean clean", 6);
        dueFault("clean,clean", 5);
        dueFault("clean:clean", 5);
        dueFault("guest 1 guest 1", 8);
        dueFault("guest 1guest 1", 7);
        dueFault("guest;1", 5);
        dueFault("word 0;0 1 1", 6);
    }

    private static void clauses14() {
        for (int many = 1; many <= 14; many++) {
            dueFault("clean" + ";clean".repeat(many - 1), NONE);
        }
        String fourteen = "clean" + ";clean".repeat(13);
        dueFault(fourteen + "  ", NONE);
        // Of fourteen clauses the last has none behind it, so no ; can stand there.
        dueFault(fourteen + ";clean", 83);
        dueFault(fourteen + ";", 83);
        dueFault(fourteen + " ;", 84);
        dueFault(fourteen + ";clean;clean", 83);
        dueFault("stair 2" + ";stair 2".repeat(13), NONE);
        dueFault("stair 2" + ";stair 2".repeat(14), 111);
        BanisterWord x = Checks.house("clean" + ";clean".repeat(13));
        dueFaultIn(x, "clean" + ";clean".repeat(13), NONE);
    }

    private static void forms() {
        String[] numbers = {" 2", " 1", " 1", " 1", " 1", " 0 0 1 1", ""};
        for (int i = 0; i < WORDS.length; i++) {
            String whole = WORDS[i] + numbers[i];
            dueFault(whole, NONE);
            dueFault(whole + " 1", whole.length() + 1);
            dueFault(whole + "x", numbers[i].isEmpty() ? 0 : whole.length());
            dueFault(whole + " x", whole.length() + 1);
            dueFault(whole + ";" + whole, NONE);
            if (!numbers[i].isEmpty()) {
                String less = whole.substring(0, whole.lastIndexOf(' '));
                dueFault(less, less.length());
                dueFault(less + ";clean", less.length());
                dueFault(less + " clean", less.length() + 1);
            }
        }
        for (String other : new String[] {"person 1", "polish 1", "night", "steps 3", "a", "z", "say 1"}) {
            dueFault(other, 0);
        }
    }

    private static void asWritten() {
        for (String word : WORDS) {
            for (int i = 0; i < word.length(); i++) {
                String cut = word.substring(0, i) + word.substring(i + 1);
                String capital = word.substring(0, i) + Character.toUpperCase(word.charAt(i)) + word.substring(i + 1);
                String other = word.substring(0, i) + (char) (word.charAt(i) + 1) + word.substring(i + 1);
                dueFault(cut + " 2", 0);
                dueFault(other + " 2", 0);
                // A capital letter is a token by itself: what is ahead of it is no word already.
                dueFault(capital + " 2", 0);
            }
            dueFault(word + word, 0);
            dueFault(word + "a 2", 0);
            dueFault("z" + word + " 2", 0);
        }
        dueFault("clean.", 5);
        dueFault("stair 2.", 7);
        dueFault("word 0 0 1 1.", 12);
    }

    private static void stairBounds() {
        dueBounds(8, "stair #", 2, 12);
        dueBounds(8, "clean;stair #;clean", 2, 12);
    }

    private static void warmthBounds() {
        for (String kind : KINDS) {
            dueBounds(8, kind + " #", 1, 9);
            dueBounds(8, "clean;" + kind + " #;clean", 1, 9);
        }
    }

    private static void seventh() {
        int place = SIX_PEOPLE.length() + 1;
        for (String kind : KINDS) {
            dueFault(SIX_PEOPLE.substring(0, place - 8) + ";" + kind + " 3", NONE);
            dueFault(SIX_PEOPLE + ";" + kind + " 3", place);
            dueFault(SIX_PEOPLE + ";" + kind, place);
            dueFault(SIX_PEOPLE + ";" + kind + " 0", place);
            dueFault(SIX_PEOPLE + "; " + kind + " 3", place + 1);
            BanisterWord x = Checks.house(SIX_PEOPLE);
            dueFaultIn(x, kind + " 3", 0);
            dueFaultIn(x, "clean;" + kind + " 3", 6);
            dueFaultIn(x, "stair 2;" + kind + " 3", NONE);
            BanisterWord y = Checks.house("guest 1;guest 1;guest 1;guest 1");
            dueFaultIn(y, kind + " 1;" + kind + " 1", NONE);
            dueFaultIn(y, kind + " 1;maid 1;" + kind + " 1", kind.length() + 10);
        }
        dueFault(SIX_PEOPLE + ";word 0 0 1 1;clean", NONE);
        dueFault(SIX_PEOPLE + ";stair 8;" + SIX_PEOPLE, NONE);
        dueFault(SIX_PEOPLE + ";stair 8;" + SIX_PEOPLE + ";maid 3", 2 * place + 8);
    }

    private static void wordStep() {
        for (int steps = 2; steps <= 12; steps++) {
            dueBounds(steps, "word # 1 1 1", 0, steps - 1);
            BanisterWord x = new BanisterWord();
            String stair = "stair " + steps + ";word ";
            dueFaultIn(x, stair + (steps - 1) + " 0 1 1", NONE);
            dueFaultIn(x, stair + steps + " 0 1 1", stair.length());
        }
        dueFault("stair 2;stair 12;word 11 0 1 1", NONE);
        dueFault("stair 12;stair 2;word 2 0 1 1", 22);
        // The step is judged by the stair as it is told ahead of it, not behind it.
        dueFault("word 8 0 1 1;stair 12", 5);
    }

    private static void wordHeight() {
        dueBounds(8, "word 0 # 1 1", 0, 1);
    }

    private static void wordSaying() {
        dueBounds(8, "word 0 0 # 1", 1, 7);
    }

    private static void wordFirm() {
        dueBounds(8, "word 0 0 1 #", 1, 20);
    }

    private static void smallLetters() {
        for (int letter = 0; letter <= 255; letter++) {
            char c = (char) letter;
            boolean small = c >= 'a' && c <= 'z';
            dueFault("clean" + c, c == ' ' ? NONE : small ? 0 : c == ';' ? 6 : 5);
            dueFault(c + "clean", c == ' ' ? NONE : 0);
        }
    }

    private static void digits() {
        for (int letter = 0; letter <= 255; letter++) {
            char c = (char) letter;
            boolean digit = c >= '0' && c <= '9';
            dueFault("guest " + c, c == ' ' ? 7 : digit && c != '0' ? NONE : 6);
            dueFault("stair 1" + c, digit && c <= '2' ? NONE : 6);
            dueFault("word 0" + c + "0 1 1", c == ' ' ? NONE : digit ? 5 : 6);
        }
        dueFault("guest 01", NONE);
        dueFault("guest 09", NONE);
        dueFault("guest 00", 6);
        dueFault("stair 02", NONE);
        dueFault("word 00 00 01 01", NONE);
        dueFault("word 07 01 07 20", NONE);
    }

    private static void blanks() {
        dueFault("  word  1   0 2     3  ", NONE);
        dueFault(" clean ; clean ", NONE);
        dueFault("clean;clean", NONE);
        dueFault("word 1 0 23", 9);
        dueFault("word 10 2 3", 5);
        // A token ends where another kind of letter begins: blanks are needed between numbers alone.
        dueFault("guest1;maid9;word0 0 1 1", NONE);
        dueFault("cle an", 0);
        dueFault("guest 1 2", 8);
        dueFault("stair 1 2", 6);
        for (char c : new char[] {'\t', '\n', '\r', '\f', 0, 160, '_'}) {
            dueFault("guest" + c + "1", 5);
        }
    }

    private static void tokens() {
        dueFault("clean1", 5);
        dueFault("1clean", 0);
        dueFault("clean??", 5);
        dueFault("guest ?1", 6);
        dueFault("guest 1?", 7);
        dueFault("guest 1?2", 7);
        dueFault("guest x1", 6);
        dueFault("guest 1x", 7);
        dueFault("guest 111", 6);
        dueFault("guestx 1", 0);
        dueFault("word 0 0 1 1x", 12);
        dueFault("guest" + (char) 255 + "1", 5);
    }

    private static void firstFault() {
        dueFault("x;y;z", 0);
        dueFault("clean;x;y", 6);
        dueFault("guest 0;guest 0", 6);
        dueFault("guest 1;guest 0;x", 14);
        dueFault("word 9 9 9 99", 5);
        dueFault("word 0 9 9 99", 7);
        dueFault("word 0 0 9 99", 9);
        dueFault("word 0 0 1 99", 11);
        dueFault("word 9", 5);
        dueFault("stair 1;" + SIX_PEOPLE + ";maid 3", 6);
    }

    private static void moreDigits() {
        String[] forms = {"stair #", "guest #", "child #", "gloved #", "maid #", "word # 0 1 1", "word 0 # 1 1", "word 0 0 # 1", "word 0 0 1 #"};
        for (String form : forms) {
            int good = form.startsWith("stair") ? 2 : 1;
            dueFault(form.replace("#", "" + good), NONE);
            dueFault(form.replace("#", "0" + good), NONE);
            dueFault(form.replace("#", "00" + good), form.indexOf('#'));
            dueFault(form.replace("#", good + "00"), form.indexOf('#'));
            dueFault(form.replace("#", "4294967" + (296 + good)), form.indexOf('#'));
            dueFault(form.replace("#", "0".repeat(40) + good), form.indexOf('#'));
            dueFault(form.replace("#", "9".repeat(99)), form.indexOf('#'));
        }
    }

    private static void endTooSoon() {
        for (String whole : new String[] {"stair 2", "guest 1", "child 1", "gloved 1", "maid 1", "word 0 0 1 1"}) {
            for (int blank = whole.indexOf(' '); blank >= 0; blank = whole.indexOf(' ', blank + 1)) {
                String cut = whole.substring(0, blank);
                dueFault(cut, blank);
                dueFault(cut + " ", blank + 1);
                dueFault(cut + "   ", blank + 3);
                dueFault("clean;" + cut, blank + 6);
            }
        }
        dueFault("", 0);
        dueFault(" ", 1);
        dueFault("clean;", 6);
        dueFault("clean; ", 7);
        dueFault(" ".repeat(155) + "guest", 160);
        dueFault(" ".repeat(154) + "clean;", 160);
        // Letters of a longer text ahead of an erase() are not read as more of a shorter one.
        BanisterWord x = new BanisterWord();
        dueFaultIn(x, "guest 11;clean", 6);
        dueFaultIn(x, "guest ", 6);
        dueFaultIn(x, "guest 1", NONE);
        dueFaultIn(x, "clea", 0);
        dueFaultIn(x, "guest 1;", 8);
    }

    // ---- promise 5

    private static void howMany() {
        for (int many = 1; many <= 14; many++) {
            BanisterWord x = new BanisterWord();
            Checks.write(x, "clean" + ";clean".repeat(many - 1));
            due("house() of " + many, x.house(), many);
            due("letters then", x.count(9), 0);
            due("fault then", x.fault(), 0);
            due("house() then", x.house(), NOT);
        }
        BanisterWord y = new BanisterWord();
        Checks.write(y, FULL_TEXT);
        due("house() of 160 letters", y.house(), 14);
        checks.dueRail("its last clause", y, 7, 1, 7, 9);
        due("room again", y.write('c'), 1);
    }

    private static void notWithFault() {
        String[] texts = {"", " ", ";", "x", "stair 3;x", "stair 3;guest 1;guest 0", "stair 3;word 3 0 1 1", "stair 3;guest",
            "stair 3;" + SIX_PEOPLE + ";maid 3", "stair 3" + ";clean".repeat(14), "stair 3;"};
        for (String text : texts) {
            BanisterWord x = new BanisterWord();
            Checks.write(x, text);
            due("house() of '" + text + "'", x.house(), NOT);
            due("steps", x.count(0), 8);
            due("people", x.count(1), 0);
            due("letters", x.count(9), text.length());
        }
    }

    private static void stairDone() {
        for (int steps = 2; steps <= 12; steps++) {
            BanisterWord x = Checks.house("stair 12;guest 1;child 1;word 0 0 1 1;word 11 1 7 20", "stair " + steps);
            due("steps", x.count(0), steps);
            due("people", x.count(1), 0);
            due("rails", x.count(3), 0);
            due("firm", x.count(4), 0);
            due("sayings", x.count(6), 0);
            due("the highest", x.rail(steps - 1, 1, 0), NONE);
            due("above it", x.rail(steps, 1, 0), UNKNOWN);
            Checks.tell(x, "maid 4");
            due("the next is person 0", x.person(0, 0), 3);
            due("what was told ahead of the stair is gone", x.count(3), 0);
        }
        BanisterWord y = Checks.house("guest 1;word 0 0 1 1", "stair 8");
        due("the same steps, no people", y.count(1), 0);
        due("the same steps, nothing on rails", y.count(3), 0);
    }

    private static void peopleDone() {
        for (int kind = 0; kind < 4; kind++) {
            for (int warmth = 1; warmth <= 9; warmth++) {
                BanisterWord x = Checks.house("guest 5;" + KINDS[kind] + " " + warmth);
                due("people", x.count(1), 2);
                due("kind", x.person(1, 0), kind);
                due("warmth", x.person(1, 1), warmth);
                due("knows", x.person(1, 2), 0);
                due("none more", x.person(2, 0), UNKNOWN);
            }
        }
    }

    private static void wordDone() {
        for (int steps : new int[] {2, 8, 12}) {
            for (int i = 0; i < 16; i++) {
                int step = i % 2 == 0 ? 0 : steps - 1;
                int height = i / 2 % 2;
                int saying = i / 4 % 2 == 0 ? 1 : 7;
                int firm = i / 8 == 0 ? 1 : 20;
                BanisterWord x = Checks.house("stair " + steps + ";word " + step + " " + height + " " + saying + " " + firm);
                checks.dueRail("told", x, step, height, saying, firm);
                due("nowhere else", x.count(3), 1);
                due("how firm", x.count(4), firm);
            }
        }
        BanisterWord y = Checks.house("word 3 1 2 9;word 3 1 2 4;word 3 0 6 20;word 3 0 5 1");
        checks.dueRail("told again, not added", y, 3, 1, 2, 4);
        checks.dueRail("another one instead", y, 3, 0, 5, 1);
        BanisterWord z = Checks.house("word 3 1 2 9", "word 3 1 2 4");
        checks.dueRail("told again by a later text", z, 3, 1, 2, 4);
    }

    private static void cleanDone() {
        BanisterWord x = Checks.house("clean");
        due("nothing was there", x.count(3), 0);
        x = Checks.house("stair 12;guest 3;word 0 0 1 1;word 0 1 2 2;word 11 0 3 3;word 11 1 4 4;clean");
        due("rails", x.count(3), 0);
        due("firm", x.count(4), 0);
        due("steps stay", x.count(0), 12);
        due("people stay", x.count(1), 1);
        x = Checks.house("word 0 0 1 1;word 7 1 4 4", "clean");
        due("of an earlier text", x.count(3), 0);
        Checks.tell(x, "maid 1");
        due("it stays gone", x.count(3), 0);
        x = Checks.house("guest 9");
        x.down(0, 0, 1);
        Checks.tell(x, "clean");
        due("what was said, too", x.count(3), 0);
    }

    private static void earlierTexts() {
        BanisterWord x = Checks.house("stair 5;guest 2;word 4 1 3 7", "child 4", "word 0 0 6 1", "maid 9");
        due("steps", x.count(0), 5);
        due("people", x.count(1), 3);
        due("the first", x.person(0, 1), 2);
        due("the second", x.person(1, 0), 1);
        due("the third", x.person(2, 1), 9);
        checks.dueRail("of the first text", x, 4, 1, 3, 7);
        checks.dueRail("of the third text", x, 0, 0, 6, 1);
        due("rails", x.count(3), 2);
    }

    private static void inOrder() {
        due("nobody behind the stair", Checks.house("guest 1;stair 4").count(1), 0);
        due("one behind the stair", Checks.house("guest 1;stair 4;maid 2").count(1), 1);
        due("nothing behind the stair", Checks.house("word 0 0 1 1;stair 4").count(3), 0);
        due("nothing behind clean", Checks.house("word 0 0 1 1;clean").count(3), 0);
        due("one behind clean", Checks.house("clean;word 0 0 1 1").count(3), 1);
        due("the last stair", Checks.house("stair 4;stair 9;stair 6").count(0), 6);
        due("the last word", Checks.house("word 0 0 1 1;word 0 0 2 1;word 0 0 3 1").rail(0, 0, 0), 3);
        BanisterWord x = Checks.house("maid 1;guest 2;child 3");
        due("person 0", x.person(0, 0), 3);
        due("person 1", x.person(1, 0), 0);
        due("person 2", x.person(2, 0), 1);
    }

    /** A house in which everything has been done that a text ends. */
    private static BanisterWord lived() {
        BanisterWord x = Checks.house("guest 5;child 2;word 0 1 2 3;word 1 1 3 1;word 2 0 4 20");
        x.up(0, 7);
        x.down(0, 7, 6);
        x.down(1, 2, 1);
        x.polish(0);
        x.keep(0);
        x.night();
        x.keep(1);
        x.seen(0, 0, 1, 1);
        x.night();
        return x;
    }

    private static void dayBehind() {
        BanisterWord x = lived();
        due("the day ahead", x.count(2), 2);
        Checks.tell(x, "maid 1");
        due("the day behind", x.count(2), 0);
        due("the next night", x.night(), 1);
    }

    private static void railsBehind() {
        BanisterWord x = lived();
        Checks.tell(x, "maid 1");
        checks.dueRail("rubbed off and polished", x, 0, 1, 2, 3);
        checks.dueRail("rubbed off to nothing", x, 1, 1, 3, 1);
        checks.dueRail("cooled and said over", x, 2, 0, 4, 20);
        checks.dueRail("said, not told", x, 7, 1, NONE, 0);
        due("rails", x.count(3), 3);
        BanisterWord y = lived();
        Checks.tell(y, "word 0 1 5 5");
        checks.dueRail("told anew", y, 0, 1, 5, 5);
        due("the others as told", y.count(3), 3);
        BanisterWord z = lived();
        z.back(0);
        Checks.tell(z, "maid 1");
        due("as told, not as kept", z.count(4), 24);
    }

    private static void knowsBehind() {
        BanisterWord x = lived();
        due("known ahead", x.count(5), 1 << 2 | 1 << 3);
        Checks.tell(x, "clean");
        due("known behind", x.count(5), 0);
        due("by the one", x.person(0, 2), 0);
        BanisterWord y = lived();
        Checks.tell(y, "stair 8;guest 1");
        due("by another one of his number", y.person(0, 2), 0);
    }

    private static void seenBehind() {
        BanisterWord x = lived();
        for (int i = 2; i <= 6; i++) {
            due("seen", x.seen(0, 0, 1, 1), i);
        }
        Checks.tell(x, "clean");
        due("seen behind", x.count(7), 0);
        due("forget()", x.forget(), 0);
        due("every step fits", x.said(0, 2), 255);
        due("room for six again", x.seen(0, 0, 1, 1), 1);
    }

    private static void keptBehind() {
        BanisterWord x = lived();
        Checks.tell(x, "maid 1");
        due("back(0)", x.back(0), NOT);
        due("back(1)", x.back(1), NOT);
        due("what can be undone", x.count(8), 0);
        due("undo()", x.undo(), NOT);
        due("keep(1)", x.keep(1), 0);
        due("back(0) yet", x.back(0), NOT);
        due("back(1) then", x.back(1), 0);
        // A text that is refused ends nothing.
        BanisterWord y = lived();
        Checks.write(y, "guest 0");
        due("refused", y.house(), NOT);
        due("back(0) of a refused text", y.back(0), 0);
        due("back(1) of a refused text", y.back(1), 1);
    }
}
