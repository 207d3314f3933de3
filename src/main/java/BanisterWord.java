/**
 * A stair whose rail keeps what was said on the way down, and gives it to the next palm going up.
 * README.md says how to use it; the document's words stand in capitals in the comments.
 */
public final class BanisterWord {
    public static final int NONE = -1, UNKNOWN = -2, OUTSIDE = -3, NOT = -4, FULL = -5;

    private static final int FIRST_STEPS = 8;
    private static final int LEAST_STEPS = 2;
    private static final int MOST_STEPS = 12;
    private static final int HEIGHTS = 2;
    private static final int LOW = 0;
    private static final int HIGH = 1;
    private static final int CELLS = MOST_STEPS * HEIGHTS;
    private static final int MOST_PEOPLE = 6;
    private static final int MOST_WARMTH = 9;
    private static final int LAST_SAYING = 7;
    private static final int NOTHING = 0;
    private static final int MOST_TOLD_FIRM = 20;
    private static final int MOST_FIRM = 99;
    private static final int LAST_DAY = 999;
    private static final int MOST_UNDONE = 8;
    private static final int MOST_KEPT = 2;
    private static final int MOST_SEEN = 6;
    private static final int MOST_LETTERS = 160;
    private static final int LAST_LETTER = 255;
    private static final int MOST_CLAUSES = 14;
    private static final int MOST_NUMBERS = 4;
    private static final int CLAUSE_PARTS = 1 + MOST_NUMBERS;
    private static final int MOST_DIGITS = 2;
    private static final int MOST_PALM_DAYS = 6;
    private static final int TENTHS = 10;

    // The words of clauses; the first four are the numbers of kinds, too.
    private static final int GUEST = 0;
    private static final int CHILD = 1;
    private static final int GLOVED = 2;
    private static final int MAID = 3;
    private static final int STAIR = 4;
    private static final int WORD = 5;
    private static final int CLEAN = 6;
    private static final int WORDS = 7;

    private final Text text = new Text();
    private final Person[] people = new Person[MOST_PEOPLE];
    private final Rails told = new Rails();
    private final Rails trial = new Rails();
    private final Moment now = new Moment();
    private final Past past = new Past();
    private final Moment[] kept = new Moment[MOST_KEPT];
    private final boolean[] isKept = new boolean[MOST_KEPT];
    private final Sights sights = new Sights();
    private int steps = FIRST_STEPS;
    private int peopleCount;

    public BanisterWord() {
        for (int k = 0; k < MOST_KEPT; k++) {
            kept[k] = new Moment();
        }
    }

    // ---- what is told

    public int write(int letter) {
        if (letter < 0 || letter > LAST_LETTER) {
            return OUTSIDE;
        }
        if (text.length >= MOST_LETTERS) {
            return FULL;
        }
        text.add(letter);
        return text.length;
    }

    public int erase() {
        int had = text.length;
        text.length = 0;
        return had;
    }

    public int fault() {
        return text.readClauses(steps, peopleCount);
    }

    public int house() {
        if (text.readClauses(steps, peopleCount) != NONE) {
            return NOT;
        }
        for (int i = 0; i < text.clauses; i++) {
            doClause(i);
        }
        text.length = 0;
        beginAsTold();
        return text.clauses;
    }

    public int person(int person, int what) {
        Person one = personAt(person);
        if (one == null) {
            return UNKNOWN;
        }
        switch (what) {
            case 0:
                return one.kindNumber();
            case 1:
                return one.warmth;
            case 2:
                return now.knows[person];
            default:
                return OUTSIDE;
        }
    }

    public int rail(int step, int height, int what) {
        if (!isStep(step) || !isHeight(height)) {
            return UNKNOWN;
        }
        switch (what) {
            case 0:
                return sayingOrNone(step, height);
            case 1:
                return now.rails.firmAt(step, height);
            default:
                return OUTSIDE;
        }
    }

    public int as(int person, int kind) {
        Person one = personAt(person);
        if (one == null) {
            return UNKNOWN;
        }
        if (kind < 0 || kind > 4) {
            return OUTSIDE;
        }
        return isOfKind(one, kind) ? one.firmness() : NOT;
    }

    // ---- what is done

    public int down(int person, int step, int saying) {
        Person one = personAt(person);
        if (one == null || !isStep(step) || !isSaying(saying)) {
            return UNKNOWN;
        }
        past.remember(now);
        now.rails.takeSaying(one, step, saying);
        return sayingOrNone(step, one.handHeight());
    }

    public int up(int person, int step) {
        Person one = personAt(person);
        if (one == null || !isStep(step)) {
            return UNKNOWN;
        }
        past.remember(now);
        now.knows[person] |= now.rails.heardBy(one, step);
        now.rails.rubOff(one, step);
        return now.knows[person];
    }

    public int polish(int step) {
        if (!isStep(step)) {
            return UNKNOWN;
        }
        past.remember(now);
        int were = 0;
        for (int height = 0; height < HEIGHTS; height++) {
            if (now.rails.sayingAt(step, height) != NOTHING) {
                were++;
            }
            now.rails.put(step, height, NOTHING, 0);
        }
        return were;
    }

    public int night() {
        if (now.day >= LAST_DAY) {
            return FULL;
        }
        past.remember(now);
        now.rails.cool();
        now.day++;
        return now.day;
    }

    public int undo() {
        if (past.size == 0) {
            return NOT;
        }
        past.restoreLatest(now);
        return past.size;
    }

    public int keep(int k) {
        if (!isKeepingPlace(k)) {
            return UNKNOWN;
        }
        kept[k].copyFrom(now);
        isKept[k] = true;
        return now.day;
    }

    public int back(int k) {
        if (!isKeepingPlace(k)) {
            return UNKNOWN;
        }
        if (!isKept[k]) {
            return NOT;
        }
        now.copyFrom(kept[k]);
        past.size = 0;
        return now.day;
    }

    // ---- foretold

    public int hears(int person, int step) {
        Person one = personAt(person);
        if (one == null || !isStep(step)) {
            return UNKNOWN;
        }
        return now.rails.heardBy(one, step);
    }

    public int lasts(int saying) {
        if (!isSaying(saying)) {
            return UNKNOWN;
        }
        return Math.max(now.rails.firmest(saying, LOW), now.rails.firmest(saying, HIGH));
    }

    /**
     * Each bare palm takes 1 at every step of its height, so as many are needed as the firmest
     * place of the saying there has, and the lowest numbers make the least bits.
     */
    public int send(int person, int saying) {
        Person one = personAt(person);
        if (one == null || !isSaying(saying)) {
            return UNKNOWN;
        }
        int needed = one.feels() ? now.rails.firmest(saying, one.handHeight()) : 0;
        int sent = 0;
        for (int i = 0; i < peopleCount && needed > 0; i++) {
            Person other = personAt(i);
            if (other != null && i != person && other.feels() && other.handHeight() == one.handHeight()) {
                sent |= 1 << i;
                needed--;
            }
        }
        return needed > 0 ? NONE : sent;
    }

    public int cover(int step, int height) {
        if (!isStep(step) || !isHeight(height)) {
            return UNKNOWN;
        }
        if (now.rails.sayingAt(step, height) == NOTHING) {
            return 0;
        }
        int firm = now.rails.firmAt(step, height);
        int able = 0;
        for (int i = 0; i < peopleCount; i++) {
            Person one = personAt(i);
            if (one != null && one.handHeight() == height && one.firmness() >= firm) {
                able |= 1 << i;
            }
        }
        return able;
    }

    // ---- what was seen

    public int seen(int person, int step, int saying, int heard) {
        Person one = personAt(person);
        if (one == null || !isStep(step) || !isSaying(saying)) {
            return UNKNOWN;
        }
        if (heard < 0 || heard > 1) {
            return OUTSIDE;
        }
        if (sights.size >= MOST_SEEN) {
            return FULL;
        }
        sights.add(one, step, saying, heard);
        return sights.size;
    }

    public int forget() {
        int were = sights.size;
        sights.size = 0;
        return were;
    }

    public int said(int person, int saying) {
        Person one = personAt(person);
        if (one == null || !isSaying(saying)) {
            return UNKNOWN;
        }
        int where = 0;
        for (int step = 0; step < steps; step++) {
            if (fitsSights(one, step, saying)) {
                where |= 1 << step;
            }
        }
        return where;
    }

    public int who(int step, int saying) {
        if (!isStep(step) || !isSaying(saying)) {
            return UNKNOWN;
        }
        int speakers = 0;
        for (int i = 0; i < peopleCount; i++) {
            Person one = personAt(i);
            if (one != null && fitsSights(one, step, saying)) {
                speakers |= 1 << i;
            }
        }
        return speakers;
    }

    public int palms(int step, int height, int n, int q, int part) {
        if (!isStep(step) || !isHeight(height)) {
            return UNKNOWN;
        }
        if (n < 0 || n > MOST_PALM_DAYS || q < 0 || q > TENTHS || part < 0 || part > 1) {
            return OUTSIDE;
        }
        // The nights take n, and 1 must be left: the palms may take what is over.
        int spare = now.rails.firmAt(step, height) - n - 1;
        int whole = power(TENTHS, n);
        int there = waysOfAtMost(spare, n, q);
        int common = commonDivisor(whole, there);
        return (part == 0 ? there : whole) / common;
    }

    public int count(int what) {
        switch (what) {
            case 0:
                return steps;
            case 1:
                return peopleCount;
            case 2:
                return now.day;
            case 3:
                return now.rails.taken();
            case 4:
                return now.rails.firmTogether();
            case 5:
                return now.knownByAnybody();
            case 6:
                return now.rails.sayingBits();
            case 7:
                return sights.size;
            case 8:
                return past.size;
            case 9:
                return text.length;
            default:
                return OUTSIDE;
        }
    }

    // ---- what the calls share

    private boolean isStep(int step) {
        return step >= 0 && step < steps;
    }

    private static boolean isHeight(int height) {
        return height == LOW || height == HIGH;
    }

    private static boolean isSaying(int saying) {
        return saying >= 1 && saying <= LAST_SAYING;
    }

    private static boolean isKeepingPlace(int k) {
        return k >= 0 && k < MOST_KEPT;
    }

    private Person personAt(int person) {
        return person >= 0 && person < peopleCount ? people[person] : null;
    }

    private int sayingOrNone(int step, int height) {
        int saying = now.rails.sayingAt(step, height);
        return saying == NOTHING ? NONE : saying;
    }

    private static boolean isOfKind(Person one, int kind) {
        switch (kind) {
            case 0:
                return true;
            case 1:
                return one instanceof Guest;
            case 2:
                return one instanceof Child;
            case 3:
                return one instanceof Gloved;
            default:
                return one instanceof Maid;
        }
    }

    private void doClause(int i) {
        int first = text.numberOf(i, 0);
        switch (text.wordOf(i)) {
            case STAIR:
                steps = first;
                peopleCount = 0;
                told.clear();
                break;
            case WORD:
                told.put(first, text.numberOf(i, 1), text.numberOf(i, 2), text.numberOf(i, 3));
                break;
            case CLEAN:
                told.clear();
                break;
            default:
                addPerson(text.wordOf(i), first);
        }
    }

    private void addPerson(int kind, int warmth) {
        if (peopleCount < MOST_PEOPLE) {
            people[peopleCount] = newPerson(kind, warmth);
            peopleCount++;
        }
    }

    private static Person newPerson(int kind, int warmth) {
        switch (kind) {
            case GUEST:
                return new Guest(warmth);
            case CHILD:
                return new Child(warmth);
            case GLOVED:
                return new Gloved(warmth);
            default:
                return new Maid(warmth);
        }
    }

    private void beginAsTold() {
        now.begin(told);
        sights.size = 0;
        past.size = 0;
        for (int k = 0; k < MOST_KEPT; k++) {
            isKept[k] = false;
        }
    }

    private boolean fitsSights(Person speaker, int step, int saying) {
        trial.copyFrom(now.rails);
        trial.takeSaying(speaker, step, saying);
        return sights.allSo(trial);
    }

    /** In how many of 10 to the n ways at most so many palms of n take, each by q of ten. */
    private static int waysOfAtMost(int most, int n, int q) {
        int ways = 0;
        for (int k = 0; k <= n && k <= most; k++) {
            ways += choices(n, k) * power(q, k) * power(TENTHS - q, n - k);
        }
        return ways;
    }

    private static int choices(int n, int k) {
        int ways = 1;
        for (int i = 1; i <= k; i++) {
            ways = ways * (n - k + i) / i;
        }
        return ways;
    }

    private static int power(int base, int exponent) {
        int product = 1;
        for (int i = 0; i < exponent; i++) {
            product *= base;
        }
        return product;
    }

    private static int commonDivisor(int whole, int part) {
        int larger = whole;
        int smaller = part;
        for (int i = 0; i < 100 && smaller > 0; i++) {
            int rest = larger % smaller;
            larger = smaller;
            smaller = rest;
        }
        return Math.max(1, larger);
    }

    /** One of PEOPLE; the classes stand over one another as the document's KINDS do. */
    private abstract static class Person {
        final int warmth;

        Person(int warmth) {
            this.warmth = warmth;
        }

        abstract int kindNumber();

        /** How FIRM this one's sayings are. */
        abstract int firmness();

        /** Whether this one's palm takes what is on the rail. */
        abstract boolean feels();

        int handHeight() {
            return HIGH;
        }
    }

    private static class Guest extends Person {
        Guest(int warmth) {
            super(warmth);
        }

        int kindNumber() {
            return GUEST;
        }

        int firmness() {
            return warmth;
        }

        boolean feels() {
            return true;
        }
    }

    private static final class Child extends Guest {
        Child(int warmth) {
            super(warmth);
        }

        int kindNumber() {
            return CHILD;
        }

        int firmness() {
            return 2 * warmth;
        }

        int handHeight() {
            return LOW;
        }
    }

    private static final class Gloved extends Guest {
        Gloved(int warmth) {
            super(warmth);
        }

        int kindNumber() {
            return GLOVED;
        }

        int firmness() {
            return warmth / 2;
        }

        boolean feels() {
            return false;
        }
    }

    private static final class Maid extends Person {
        Maid(int warmth) {
            super(warmth);
        }

        int kindNumber() {
            return MAID;
        }

        int firmness() {
            return 0;
        }

        boolean feels() {
            return false;
        }
    }

    /** What is on the rails; beyond the stair's highest step there is never anything. */
    private static final class Rails {
        private final int[] sayings = new int[CELLS];
        private final int[] firms = new int[CELLS];

        private static int cell(int step, int height) {
            return step * HEIGHTS + height;
        }

        int sayingAt(int step, int height) {
            return sayings[cell(step, height)];
        }

        int firmAt(int step, int height) {
            return firms[cell(step, height)];
        }

        void put(int step, int height, int saying, int firm) {
            set(cell(step, height), saying, firm);
        }

        void clear() {
            for (int cell = 0; cell < CELLS; cell++) {
                set(cell, NOTHING, 0);
            }
        }

        void copyFrom(Rails other) {
            System.arraycopy(other.sayings, 0, sayings, 0, CELLS);
            System.arraycopy(other.firms, 0, firms, 0, CELLS);
        }

        void takeSaying(Person speaker, int step, int saying) {
            int cell = cell(step, speaker.handHeight());
            int firm = speaker.firmness();
            if (sayings[cell] == NOTHING || sayings[cell] == saying) {
                set(cell, saying, Math.min(MOST_FIRM, firms[cell] + firm));
            } else if (firms[cell] >= firm) {
                set(cell, sayings[cell], firms[cell] - firm);
            } else {
                set(cell, saying, firm - firms[cell]);
            }
        }

        int heardBy(Person one, int step) {
            int heard = 0;
            for (int s = 0; s <= step && one.feels(); s++) {
                heard |= bitOf(cell(s, one.handHeight()));
            }
            return heard;
        }

        void rubOff(Person one, int step) {
            for (int s = 0; s <= step && one.feels(); s++) {
                lessen(cell(s, one.handHeight()));
            }
        }

        void cool() {
            for (int cell = 0; cell < CELLS; cell++) {
                lessen(cell);
            }
        }

        /** How FIRM a saying is where it is firmest at that height; 0 if it is nowhere. */
        int firmest(int saying, int height) {
            int most = 0;
            for (int step = 0; step < MOST_STEPS; step++) {
                if (sayingAt(step, height) == saying) {
                    most = Math.max(most, firmAt(step, height));
                }
            }
            return most;
        }

        int taken() {
            int number = 0;
            for (int cell = 0; cell < CELLS; cell++) {
                if (sayings[cell] != NOTHING) {
                    number++;
                }
            }
            return number;
        }

        int firmTogether() {
            int sum = 0;
            for (int cell = 0; cell < CELLS; cell++) {
                sum += firms[cell];
            }
            return sum;
        }

        int sayingBits() {
            int bits = 0;
            for (int cell = 0; cell < CELLS; cell++) {
                bits |= bitOf(cell);
            }
            return bits;
        }

        private int bitOf(int cell) {
            return sayings[cell] == NOTHING ? 0 : 1 << sayings[cell];
        }

        private void lessen(int cell) {
            set(cell, sayings[cell], Math.max(0, firms[cell] - 1));
        }

        /** A saying that is firm by nothing is none: that rule has its one place here. */
        private void set(int cell, int saying, int firm) {
            sayings[cell] = firm > 0 ? saying : NOTHING;
            firms[cell] = firm;
        }
    }

    /** All that goings, polish and nights change, so that it can be undone and kept as one. */
    private static final class Moment {
        final Rails rails = new Rails();
        final int[] knows = new int[MOST_PEOPLE];
        int day;

        void copyFrom(Moment other) {
            rails.copyFrom(other.rails);
            System.arraycopy(other.knows, 0, knows, 0, MOST_PEOPLE);
            day = other.day;
        }

        void begin(Rails told) {
            rails.copyFrom(told);
            for (int i = 0; i < MOST_PEOPLE; i++) {
                knows[i] = 0;
            }
            day = 0;
        }

        int knownByAnybody() {
            int bits = 0;
            for (int i = 0; i < MOST_PEOPLE; i++) {
                bits |= knows[i];
            }
            return bits;
        }
    }

    /** The moments ahead of the latest doings, in a ring that drops the oldest. */
    private static final class Past {
        private final Moment[] moments = new Moment[MOST_UNDONE];
        private int next;
        int size;

        Past() {
            for (int i = 0; i < MOST_UNDONE; i++) {
                moments[i] = new Moment();
            }
        }

        void remember(Moment moment) {
            moments[next].copyFrom(moment);
            next = (next + 1) % MOST_UNDONE;
            size = Math.min(MOST_UNDONE, size + 1);
        }

        void restoreLatest(Moment moment) {
            if (size > 0) {
                next = (next + MOST_UNDONE - 1) % MOST_UNDONE;
                size--;
                moment.copyFrom(moments[next]);
            }
        }
    }

    /** What is SEEN: of one who went up to a step, whether a saying was heard. */
    private static final class Sights {
        private final Person[] climbers = new Person[MOST_SEEN];
        private final int[] steps = new int[MOST_SEEN];
        private final int[] sayings = new int[MOST_SEEN];
        private final int[] heards = new int[MOST_SEEN];
        int size;

        void add(Person climber, int step, int saying, int heard) {
            if (size < MOST_SEEN) {
                climbers[size] = climber;
                steps[size] = step;
                sayings[size] = saying;
                heards[size] = heard;
                size++;
            }
        }

        boolean allSo(Rails rails) {
            for (int i = 0; i < size; i++) {
                Person climber = climbers[i];
                if (climber != null && (rails.heardBy(climber, steps[i]) >> sayings[i] & 1) != heards[i]) {
                    return false;
                }
            }
            return true;
        }
    }

    /** THE TEXT, and its clauses as they were read last. */
    private static final class Text {
        private final int[] letters = new int[MOST_LETTERS];
        private final int[] parts = new int[MOST_CLAUSES * CLAUSE_PARTS];
        private int at;
        private int stepsThen;
        private int peopleThen;
        int length;
        int clauses;

        void add(int letter) {
            if (length < MOST_LETTERS) {
                letters[length] = letter;
                length++;
            }
        }

        int wordOf(int clause) {
            return parts[clause * CLAUSE_PARTS];
        }

        int numberOf(int clause, int place) {
            return parts[clause * CLAUSE_PARTS + 1 + place];
        }

        /** Reads the clauses for a house of so many steps and people: the FAULT's place, or NONE. */
        int readClauses(int steps, int people) {
            at = 0;
            clauses = 0;
            stepsThen = steps;
            peopleThen = people;
            for (int i = 0; i < MOST_CLAUSES; i++) {
                int wrong = readClause();
                if (wrong != NONE) {
                    return wrong;
                }
                skipBlanks();
                if (at >= length) {
                    return NONE;
                }
                // A last clause cannot have another behind it, so no ; can stand there.
                if (letters[at] != ';' || clauses == MOST_CLAUSES) {
                    return at;
                }
                at++;
            }
            return NONE;
        }

        private int readClause() {
            skipBlanks();
            int start = at;
            int word = readWord();
            if (word == NONE || isPersonWord(word) && peopleThen >= MOST_PEOPLE) {
                return start;
            }
            int base = clauses * CLAUSE_PARTS;
            parts[base] = word;
            for (int place = 0; place < numbersBehind(word); place++) {
                skipBlanks();
                start = at;
                int number = readNumber();
                if (number < least(word, place) || number > most(word, place)) {
                    return start;
                }
                parts[base + 1 + place] = number;
            }
            clauses++;
            foresee(word, parts[base + 1]);
            return NONE;
        }

        /** Later clauses are judged by the house as the earlier ones leave it. */
        private void foresee(int word, int first) {
            if (word == STAIR) {
                stepsThen = first;
                peopleThen = 0;
            } else if (isPersonWord(word)) {
                peopleThen++;
            }
        }

        private void skipBlanks() {
            while (at < length && letters[at] == ' ') {
                at++;
            }
        }

        private int readWord() {
            int start = at;
            while (at < length && letters[at] >= 'a' && letters[at] <= 'z') {
                at++;
            }
            for (int word = 0; word < WORDS; word++) {
                if (spells(start, at, nameOf(word))) {
                    return word;
                }
            }
            return NONE;
        }

        private boolean spells(int start, int end, String name) {
            if (end - start != name.length()) {
                return false;
            }
            for (int i = start; i < end; i++) {
                if (letters[i] != name.charAt(i - start)) {
                    return false;
                }
            }
            return true;
        }

        /** NONE, which is below every bound, stands for no number and for one of too many digits. */
        private int readNumber() {
            int start = at;
            int number = 0;
            while (at < length && letters[at] >= '0' && letters[at] <= '9') {
                if (at - start < MOST_DIGITS) {
                    number = number * 10 + letters[at] - '0';
                }
                at++;
            }
            return at == start || at - start > MOST_DIGITS ? NONE : number;
        }

        private static boolean isPersonWord(int word) {
            return word >= GUEST && word <= MAID;
        }

        private static String nameOf(int word) {
            switch (word) {
                case GUEST:
                    return "guest";
                case CHILD:
                    return "child";
                case GLOVED:
                    return "gloved";
                case MAID:
                    return "maid";
                case STAIR:
                    return "stair";
                case WORD:
                    return "word";
                default:
                    return "clean";
            }
        }

        private static int numbersBehind(int word) {
            switch (word) {
                case WORD:
                    return MOST_NUMBERS;
                case CLEAN:
                    return 0;
                default:
                    return 1;
            }
        }

        private static int least(int word, int place) {
            if (word == STAIR) {
                return LEAST_STEPS;
            }
            return word == WORD && place < 2 ? 0 : 1;
        }

        private int most(int word, int place) {
            if (word == STAIR) {
                return MOST_STEPS;
            }
            if (word != WORD) {
                return MOST_WARMTH;
            }
            switch (place) {
                case 0:
                    return stepsThen - 1;
                case 1:
                    return HIGH;
                case 2:
                    return LAST_SAYING;
                default:
                    return MOST_TOLD_FIRM;
            }
        }
    }
}
