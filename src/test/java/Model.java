import java.util.ArrayDeque;
import java.util.ArrayList;
import java.util.Deque;
import java.util.HashMap;
import java.util.List;
import java.util.Map;
import java.util.regex.Matcher;
import java.util.regex.Pattern;

/**
 * The document once more, as slowly and plainly as can be: what is foretold is tried out on copies,
 * sets of people and courses of palms are gone through one by one. ModelTest holds the class against it.
 */
final class Model {
    private static final int NONE = -1, UNKNOWN = -2, OUTSIDE = -3, NOT = -4, FULL = -5;
    private static final Pattern TOKEN = Pattern.compile("[a-z]+|[0-9]+|[^ ]", Pattern.DOTALL);

    /** What is on a rail. */
    private record Word(int saying, int firm) { }

    private record Someone(String kind, int warmth) { }

    private record Sight(int person, int step, int saying, int heard) { }

    private static final class State {
        final Map<String, Word> rails = new HashMap<>();
        final Map<Integer, Integer> knows = new HashMap<>();
        int day;

        State copy() {
            State copy = new State();
            copy.rails.putAll(rails);
            copy.knows.putAll(knows);
            copy.day = day;
            return copy;
        }
    }

    private final StringBuilder text = new StringBuilder();
    private int n = 8;
    private final List<Someone> people = new ArrayList<>();
    private final Map<String, Word> told = new HashMap<>();
    private State state = new State();
    private final Deque<State> past = new ArrayDeque<>();
    private final State[] kept = new State[2];
    private final List<Sight> sights = new ArrayList<>();

    // ---- the text

    int write(int letter) {
        if (letter < 0 || letter > 255) return OUTSIDE;
        if (text.length() == 160) return FULL;
        text.append((char) letter);
        return text.length();
    }

    int erase() {
        int had = text.length();
        text.setLength(0);
        return had;
    }

    /** Goes through the tokens with a list of what must come next: "W" a word, "lo-hi" a number, ";" an end of a clause. */
    int fault() {
        Matcher m = TOKEN.matcher(text);
        int steps = n;
        int here = people.size();
        int clauses = 0;
        List<String> next = new ArrayList<>(List.of("W"));
        String word = "";
        while (m.find()) {
            String token = m.group();
            String due = next.isEmpty() ? ";" : next.remove(0);
            if (due.equals("W")) {
                word = token;
                clauses++;
                switch (token) {
                    case "stair": next.add("2-12"); here = 0; break;
                    case "guest": case "child": case "gloved": case "maid":
                        if (++here > 6) return m.start();
                        next.add("1-9");
                        break;
                    case "word": next.addAll(List.of("0-" + (steps - 1), "0-1", "1-7", "1-20")); break;
                    case "clean": break;
                    default: return m.start();
                }
            } else if (due.equals(";")) {
                if (!token.equals(";") || clauses == 14) return m.start();
                next.add("W");
            } else {
                String[] bounds = due.split("-");
                if (!token.matches("[0-9]{1,2}")) return m.start();
                int number = Integer.parseInt(token);
                if (number < Integer.parseInt(bounds[0]) || number > Integer.parseInt(bounds[1])) return m.start();
                if (word.equals("stair")) steps = number;
            }
        }
        return next.isEmpty() ? NONE : text.length();
    }

    int house() {
        if (fault() != NONE) return NOT;
        String[] clauses = text.toString().split(";");
        for (String clause : clauses) {
            List<String> t = new ArrayList<>();
            Matcher m = TOKEN.matcher(clause);
            while (m.find()) t.add(m.group());
            switch (t.get(0)) {
                case "stair": n = Integer.parseInt(t.get(1)); people.clear(); told.clear(); break;
                case "clean": told.clear(); break;
                case "word":
                    told.put(at(Integer.parseInt(t.get(1)), Integer.parseInt(t.get(2))),
                            new Word(Integer.parseInt(t.get(3)), Integer.parseInt(t.get(4))));
                    break;
                default: people.add(new Someone(t.get(0), Integer.parseInt(t.get(1))));
            }
        }
        text.setLength(0);
        state = new State();
        state.rails.putAll(told);
        past.clear();
        sights.clear();
        kept[0] = null;
        kept[1] = null;
        return clauses.length;
    }

    // ---- what is there

    private static String at(int step, int height) {
        return step + "/" + height;
    }

    private boolean person(int p) { return p >= 0 && p < people.size(); }

    private boolean step(int s) { return s >= 0 && s < n; }

    private static boolean height(int h) { return h == 0 || h == 1; }

    private static boolean saying(int t) { return t >= 1 && t <= 7; }

    private int hand(int p) { return people.get(p).kind.equals("child") ? 0 : 1; }

    private boolean bare(int p) { return people.get(p).kind.equals("child") || people.get(p).kind.equals("guest"); }

    private int warmly(int p) {
        int w = people.get(p).warmth;
        switch (people.get(p).kind) {
            case "guest": return w;
            case "child": return w + w;
            case "gloved": return w / 2;
            default: return 0;
        }
    }

    int person(int p, int what) {
        if (!person(p)) return UNKNOWN;
        if (what < 0 || what > 2) return OUTSIDE;
        if (what == 0) return List.of("guest", "child", "gloved", "maid").indexOf(people.get(p).kind);
        return what == 1 ? people.get(p).warmth : state.knows.getOrDefault(p, 0);
    }

    int rail(int s, int h, int what) {
        if (!step(s) || !height(h)) return UNKNOWN;
        if (what < 0 || what > 1) return OUTSIDE;
        Word w = state.rails.get(at(s, h));
        if (w == null) return what == 0 ? NONE : 0;
        return what == 0 ? w.saying : w.firm;
    }

    int as(int p, int kind) {
        if (!person(p)) return UNKNOWN;
        if (kind < 0 || kind > 4) return OUTSIDE;
        Map<String, List<Integer>> over = Map.of("guest", List.of(0, 1), "child", List.of(0, 1, 2),
                "gloved", List.of(0, 1, 3), "maid", List.of(0, 4));
        return over.get(people.get(p).kind).contains(kind) ? warmly(p) : NOT;
    }

    // ---- what is done, on any state

    private static void set(State st, String place, int saying, int firm) {
        if (firm <= 0) st.rails.remove(place);
        else st.rails.put(place, new Word(saying, firm));
    }

    private void doDown(State st, int p, int s, int t) {
        String place = at(s, hand(p));
        Word w = st.rails.get(place);
        int by = warmly(p);
        if (w == null) set(st, place, t, by);
        else if (w.saying == t) set(st, place, t, Math.min(99, w.firm + by));
        else if (w.firm >= by) set(st, place, w.saying, w.firm - by);
        else set(st, place, t, by - w.firm);
    }

    /** Answers what was heard on the way. */
    private int doUp(State st, int p, int s) {
        int heard = 0;
        if (!bare(p)) return 0;
        for (int i = 0; i <= s; i++) {
            Word w = st.rails.get(at(i, hand(p)));
            if (w != null) {
                heard |= 1 << w.saying;
                set(st, at(i, hand(p)), w.saying, w.firm - 1);
            }
        }
        st.knows.merge(p, heard, (a, b) -> a | b);
        return heard;
    }

    private static void doNight(State st) {
        for (String place : new ArrayList<>(st.rails.keySet())) {
            Word w = st.rails.get(place);
            set(st, place, w.saying, w.firm - 1);
        }
        st.day++;
    }

    private void remember() {
        past.addLast(state.copy());
        if (past.size() > 8) past.removeFirst();
    }

    int down(int p, int s, int t) {
        if (!person(p) || !step(s) || !saying(t)) return UNKNOWN;
        remember();
        doDown(state, p, s, t);
        return rail(s, hand(p), 0);
    }

    int up(int p, int s) {
        if (!person(p) || !step(s)) return UNKNOWN;
        remember();
        doUp(state, p, s);
        return state.knows.getOrDefault(p, 0);
    }

    int polish(int s) {
        if (!step(s)) return UNKNOWN;
        remember();
        return (state.rails.remove(at(s, 0)) == null ? 0 : 1) + (state.rails.remove(at(s, 1)) == null ? 0 : 1);
    }

    int night() {
        if (state.day == 999) return FULL;
        remember();
        doNight(state);
        return state.day;
    }

    int undo() {
        if (past.isEmpty()) return NOT;
        state = past.removeLast();
        return past.size();
    }

    int keep(int k) {
        if (k != 0 && k != 1) return UNKNOWN;
        kept[k] = state.copy();
        return state.day;
    }

    int back(int k) {
        if (k != 0 && k != 1) return UNKNOWN;
        if (kept[k] == null) return NOT;
        state = kept[k].copy();
        past.clear();
        return state.day;
    }

    // ---- foretold

    int hears(int p, int s) {
        if (!person(p) || !step(s)) return UNKNOWN;
        return doUp(state.copy(), p, s);
    }

    int lasts(int t) {
        if (!saying(t)) return UNKNOWN;
        State st = state.copy();
        int nights = 0;
        while (st.rails.values().stream().anyMatch(w -> w.saying == t)) {
            doNight(st);
            nights++;
        }
        return nights;
    }

    int send(int p, int t) {
        if (!person(p) || !saying(t)) return UNKNOWN;
        for (int many = 0; many <= 6; many++) {
            for (int set = 0; set < 1 << people.size(); set++) {
                if (Integer.bitCount(set) == many && (set >> p & 1) == 0 && gone(set, p, t)) return set;
            }
        }
        return NONE;
    }

    private boolean gone(int set, int p, int t) {
        State st = state.copy();
        for (int i = 0; i < people.size(); i++) {
            if ((set >> i & 1) == 1) doUp(st, i, n - 1);
        }
        return (doUp(st, p, n - 1) >> t & 1) == 0;
    }

    int cover(int s, int h) {
        if (!step(s) || !height(h)) return UNKNOWN;
        Word there = state.rails.get(at(s, h));
        int able = 0;
        for (int p = 0; p < people.size() && there != null; p++) {
            for (int t = 1; t <= 7; t++) {
                State st = state.copy();
                doDown(st, p, s, t);
                Word w = st.rails.get(at(s, h));
                if (t != there.saying && (w == null || w.saying == t)) able |= 1 << p;
            }
        }
        return able;
    }

    // ---- what was seen

    int seen(int p, int s, int t, int heard) {
        if (!person(p) || !step(s) || !saying(t)) return UNKNOWN;
        if (heard != 0 && heard != 1) return OUTSIDE;
        if (sights.size() == 6) return FULL;
        sights.add(new Sight(p, s, t, heard));
        return sights.size();
    }

    int forget() {
        int were = sights.size();
        sights.clear();
        return were;
    }

    private boolean fits(int p, int s, int t) {
        State st = state.copy();
        doDown(st, p, s, t);
        return sights.stream().allMatch(i -> (doUp(st.copy(), i.person, i.step) >> i.saying & 1) == i.heard);
    }

    int said(int p, int t) {
        if (!person(p) || !saying(t)) return UNKNOWN;
        int bits = 0;
        for (int s = 0; s < n; s++) if (fits(p, s, t)) bits |= 1 << s;
        return bits;
    }

    int who(int s, int t) {
        if (!step(s) || !saying(t)) return UNKNOWN;
        int bits = 0;
        for (int p = 0; p < people.size(); p++) if (fits(p, s, t)) bits |= 1 << p;
        return bits;
    }

    int palms(int s, int h, int days, int q, int part) {
        if (!step(s) || !height(h)) return UNKNOWN;
        if (days < 0 || days > 6 || q < 0 || q > 10 || part < 0 || part > 1) return OUTSIDE;
        long above = ways(rail(s, h, 1), days, q);
        long below = 1;
        for (int i = 0; i < days; i++) below *= 10;
        for (int prime : new int[] {2, 5}) {
            while (above % prime == 0 && below % prime == 0) {
                above /= prime;
                below /= prime;
            }
        }
        return (int) (part == 0 ? above : below);
    }

    private static long ways(int firm, int days, int q) {
        if (firm <= 0) return 0;
        return days == 0 ? 1 : q * ways(firm - 2, days - 1, q) + (10 - q) * ways(firm - 1, days - 1, q);
    }

    int count(int what) {
        switch (what) {
            case 0: return n;
            case 1: return people.size();
            case 2: return state.day;
            case 3: return state.rails.size();
            case 4: return state.rails.values().stream().mapToInt(Word::firm).sum();
            case 5: return state.knows.values().stream().reduce(0, (a, b) -> a | b);
            case 6: return state.rails.values().stream().mapToInt(w -> 1 << w.saying).reduce(0, (a, b) -> a | b);
            case 7: return sights.size();
            case 8: return past.size();
            case 9: return text.length();
            default: return OUTSIDE;
        }
    }
}
