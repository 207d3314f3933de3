import java.util.ArrayList;
import java.util.Arrays;
import java.util.List;
import java.util.function.Supplier;
import java.util.function.ToIntFunction;

/**
 * Holds that a call changes nothing: of two objects that were made alike, one gets the call, and all
 * that can be found out about them by other calls must be the same. Each finding has objects of its
 * own, for an object is good for 512 calls only, and some findings change what they find out about.
 */
final class Unchanged {
    private static final int LAST_UNDO = 9;

    private final Checks checks;

    Unchanged(Checks checks) {
        this.checks = checks;
    }

    void due(String what, Supplier<BanisterWord> made, ToIntFunction<BanisterWord> call, int want) {
        for (int finding = 0; finding < LAST_UNDO + 6; finding++) {
            BanisterWord spared = made.get();
            BanisterWord called = made.get();
            checks.due(what, call.applyAsInt(called), want);
            int[] due = find(finding, spared);
            int[] found = find(finding, called);
            checks.holds(what + " changes nothing (finding " + finding + ": " + Arrays.toString(found)
                    + ", due is " + Arrays.toString(due) + ")", Arrays.equals(found, due));
        }
    }

    /** Finding 0 .. 9 look behind as many undos, the others at what is kept, told, written and seen. */
    private static int[] find(int finding, BanisterWord x) {
        List<Integer> found = new ArrayList<>();
        if (finding <= LAST_UNDO) {
            for (int i = 0; i < finding; i++) {
                found.add(x.undo());
            }
        } else if (finding == LAST_UNDO + 1 || finding == LAST_UNDO + 2) {
            found.add(x.back(finding - LAST_UNDO - 1));
        } else if (finding == LAST_UNDO + 3) {
            found.add(x.erase());
            Checks.write(x, "word 0 0 1 1");
            found.add(x.house());
        } else if (finding == LAST_UNDO + 4) {
            found.add(x.fault());
            found.add(x.house());
        } else {
            lookAtSeen(x, found);
        }
        look(x, found);
        return found.stream().mapToInt(i -> i).toArray();
    }

    /** All that the house shows as it is. */
    private static void look(BanisterWord x, List<Integer> found) {
        for (int what = 0; what <= 9; what++) {
            found.add(x.count(what));
        }
        for (int person = 0; person < x.count(1); person++) {
            for (int what = 0; what <= 2; what++) {
                found.add(x.person(person, what));
            }
        }
        for (int step = 0; step < x.count(0); step++) {
            for (int i = 0; i < 4; i++) {
                found.add(x.rail(step, i / 2, i % 2));
            }
        }
    }

    /** What is SEEN shows in who could have said what, all together and with one more of it. */
    private static void lookAtSeen(BanisterWord x, List<Integer> found) {
        for (int step = 0; step < x.count(0); step++) {
            for (int saying = 1; saying <= 7; saying++) {
                found.add(x.who(step, saying));
            }
        }
        found.add(x.seen(0, 0, 1, 1));
        for (int saying = 1; saying <= 7; saying++) {
            found.add(x.said(0, saying));
        }
        found.add(x.forget());
    }
}
