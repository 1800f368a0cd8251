import java.util.ArrayList;
import java.util.List;

/**
 * Calls that change nothing: of two objects with the same calls one has such a call besides, and then all that later
 * calls can show has to be the same of both.
 */
public final class RefusalEdgeTest extends Asker {
    /** Six parts, of which none can be split into two new ones. */
    private static final String SIX_PARTS = "s1@20,1@30,1@40,1@60,1@70,1@80";
    /** The part 1 can't be split by a third, nor joined with its neighbours; the last two are too much together. */
    private static final String GREAT_WEIGHTS = "s1@0,500@49,500@51,1@100";

    /** Calls on an object, or one call. */
    private interface Calls {
        int of(Used x);
    }

    /** What later calls show: each look is of an object of its own, as none may be asked too often. */
    private enum Look {
        NOW, UNDONE, SLOTS, PAD, MORE_PAD, LATER;

        List<Integer> of(Used x) {
            List<Integer> seen = new ArrayList<>();
            switch (this) {
                case NOW: seeAnswers(x, seen); break;
                case UNDONE: seeUndone(x, seen); break;
                case SLOTS: seeSlots(x, seen); break;
                case PAD: seePad(x, "", seen); break;
                case MORE_PAD: seePad(x, ";p77", seen); break;
                default: seeLater(x, seen);
            }
            return seen;
        }
    }

    public static void main(String[] args) throws Exception {
        new RefusalEdgeTest().runAll();
    }

    // ---- refused calls

    void refusedByANewObject() {
        says("A call that returns an error changes nothing.");
        Calls nothing = y -> 0;
        refusedAnywhere(nothing);
        same(nothing, y -> y.dismiss(0), NO_SUCH);
        same(nothing, y -> y.refine(1, 0, 100), NO_SUCH);
        same(nothing, y -> y.refine(0, 31, 31), BAD_VALUE);
        same(nothing, y -> y.refine(0, 29, 29), BAD_VALUE);
        same(nothing, y -> y.join(0), NO_SUCH);
        same(nothing, y -> y.receiver(0, 0), NO_SUCH);
        same(nothing, y -> y.part(1, 0), NO_SUCH);
        same(nothing, y -> y.worth(0, 0), NO_SUCH);
        same(nothing, y -> y.carryOut(), BAD_TEXT);
        same(nothing, y -> y.undo(), NOT_POSSIBLE);
        same(nothing, y -> y.restore(0), NOT_POSSIBLE);
        same(nothing, y -> y.restore(1), NOT_POSSIBLE);
    }

    void refusedByAFullObject() {
        says("and the first one that applies is returned. A call that returns an error changes nothing");
        Calls full = y -> fill(y, SIX_PARTS, "p61;-0;b");
        refusedAnywhere(full);
        same(full, y -> y.hire(1, 1, 1, 1), TOO_MANY);
        same(full, y -> y.dismiss(5), NO_SUCH);
        same(full, y -> y.refine(6, 80, 80), NO_SUCH);
        same(full, y -> y.refine(0, 21, 30), BAD_VALUE);
        same(full, y -> y.refine(5, 79, 79), BAD_VALUE);
        same(full, y -> y.refine(2, 39, 41), TOO_MANY);
        same(full, y -> y.refine(5, 0, 100), TOO_MANY);
        same(full, y -> y.join(5), NO_SUCH);
        same(full, y -> y.receiver(5, 0), NO_SUCH);
        same(full, y -> y.part(6, 0), NO_SUCH);
        same(full, y -> y.worth(5, 0), NO_SUCH);
    }

    void refusedForGreatWeights() {
        says("TOO_MANY if a weight would be above 999");
        Calls full = y -> fill(y, GREAT_WEIGHTS, "p61;-0;b");
        same(full, y -> y.refine(1, 48, 51), TOO_MANY);
        same(full, y -> y.refine(2, 0, 98), TOO_MANY);
        same(full, y -> y.join(0), NOT_POSSIBLE);
        same(full, y -> y.join(1), TOO_MANY);
        same(full, y -> y.join(2), NOT_POSSIBLE);
        same(full, y -> y.join(3), NO_SUCH);
    }

    void refusedForAFault() {
        says("BAD_TEXT if the pad has a fault (then it stays)");
        same(y -> fill(y, SIX_PARTS, "p61;-0;b;"), y -> y.carryOut(), BAD_TEXT);
        same(y -> fill(y, SIX_PARTS, "p61;-0;x"), y -> y.carryOut(), BAD_TEXT);
        same(y -> fill(y, SIX_PARTS, ""), y -> y.carryOut(), BAD_TEXT);
        same(y -> y.putAll("p61;s1@2,3@4,5@6,7@8,9@10,11@12,"), y -> y.carryOut(), BAD_TEXT);
    }

    void refusedByAFullPad() {
        says("TOO_MANY if the pad would be longer than 80");
        Calls full = y -> y.putAll("b;".repeat(39) + "p9");
        same(full, y -> y.put('9'), TOO_MANY);
        same(full, y -> y.put(Used.packed("99999999")), TOO_MANY);
        same(full, y -> y.put(0), BAD_VALUE);
        same(full, y -> y.put(32), BAD_VALUE);
        Calls nearlyFull = y -> y.putAll("b;".repeat(38) + "p9");
        same(nearlyFull, y -> y.put(Used.packed("9;b")), TOO_MANY);
    }

    void refusedForAnEmptySlot() {
        says("NOT_POSSIBLE if nothing was saved in it.");
        same(y -> y.prior(40) + y.save(0), y -> y.restore(1), NOT_POSSIBLE);
        same(y -> y.prior(40) + y.save(1), y -> y.restore(0), NOT_POSSIBLE);
    }

    void refusedAfterUndo() {
        says("NOT_POSSIBLE if there is none.");
        same(y -> y.prior(40) + y.undo(), y -> y.undo(), NOT_POSSIBLE);
        same(y -> y.prior(40) + y.undo(), y -> y.prior(0), BAD_VALUE);
        same(y -> fill(y, SIX_PARTS, "b") + y.undo() + y.undo(), y -> y.prior(100), BAD_VALUE);
        same(y -> fill(y, SIX_PARTS, "b") + y.undo() + y.undo(), y -> y.dismiss(5), NO_SUCH);
    }

    /** These are refused whatever there is. */
    private void refusedAnywhere(Calls before) {
        for (int share : new int[] {0, 100}) {
            same(before, y -> y.prior(share), BAD_VALUE);
        }
        int[][] hires = {{0, 1, 1, 1}, {100, 1, 1, 1}, {1, 0, 1, 1}, {1, 100, 1, 1}, {1, 1, -1, 1}, {1, 1, 100, 1}, {1, 1, 1, -100},
            {1, 1, 1, 100}};
        for (int[] one : hires) {
            same(before, y -> y.hire(one[0], one[1], one[2], one[3]), BAD_VALUE);
        }
        same(before, y -> y.dismiss(-1), NO_SUCH);
        same(before, y -> y.refine(-1, 0, 100), NO_SUCH);
        same(before, y -> y.refine(0, -1, 100), BAD_VALUE);
        same(before, y -> y.refine(0, 0, 101), BAD_VALUE);
        same(before, y -> y.join(-1), NO_SUCH);
        same(before, y -> y.receiver(-1, 0), NO_SUCH);
        same(before, y -> y.part(-1, 0), NO_SUCH);
        same(before, y -> y.part(0, 4), BAD_VALUE);
        same(before, y -> y.worth(-1, 2), NO_SUCH);
        same(before, y -> y.value(101), BAD_VALUE);
        same(before, y -> y.mean(2), BAD_VALUE);
        same(before, y -> y.count(7), BAD_VALUE);
        same(before, y -> y.envelope(101, 0), BAD_VALUE);
        same(before, y -> y.envelope(50, 2), BAD_VALUE);
        same(before, y -> y.best(-1, 0), BAD_VALUE);
        same(before, y -> y.best(50, 4), BAD_VALUE);
        same(before, y -> y.mostGained(3), BAD_VALUE);
        same(before, y -> y.put(0), BAD_VALUE);
        same(before, y -> y.put('b' << 8 | 32), BAD_VALUE);
        same(before, y -> y.put(127 << 8 | 'b'), BAD_VALUE);
        same(before, y -> y.put('b' << 16 | 'b'), BAD_VALUE);
        for (int slot : new int[] {-1, 2}) {
            same(before, y -> y.save(slot), BAD_VALUE);
            same(before, y -> y.restore(slot), BAD_VALUE);
        }
    }

    // ---- orders that are refused

    void refusedOrders() {
        says("up to the first one that returns an error, and empties the pad");
        for (String order : new String[] {"p0", "p100", "-4", "r0,1$1", "s0@50", "s1@101", "s1@49", "s1@49,998@50,2@50,1@51"}) {
            for (String behind : new String[] {"", ";p70;-0"}) {
                Calls before = y -> fill(y, GREAT_WEIGHTS, "");
                Calls none = y -> y.dismiss(4) + y.putAll("p0") + y.carryOut();
                Calls refused = y -> y.dismiss(4) + 0 * y.putAll(order + behind) + 2 + y.carryOut();
                for (Look look : Look.values()) {
                    compare(order + behind, made(before, none, 4 + 2), made(before, refused, 4 + 2), look);
                }
            }
        }
    }

    // ---- questions

    void envelopesChangeNothing() {
        says("envelopes; nothing changes");
        Calls full = y -> fill(y, SIX_PARTS, "p61;-0;b");
        for (Calls before : List.<Calls>of(y -> 0, full)) {
            for (int posterior : new int[] {0, 1, 50, 99, 100}) {
                same(before, y -> 0 * y.envelope(posterior, 0) + 0 * y.envelope(posterior, 1), 0);
                for (int what = 0; what < 4; what++) {
                    int asked = what;
                    same(before, y -> 0 * y.best(posterior, asked), 0);
                }
            }
            same(before, y -> 0 * (y.mostGained(0) + y.mostGained(1) + y.mostGained(2)), 0);
        }
    }

    void questionsChangeNothing() {
        says("what there is");
        Calls full = y -> fill(y, SIX_PARTS, "p61;-0;b");
        for (Calls before : List.<Calls>of(y -> 0, full, y -> fill(y, GREAT_WEIGHTS, "p61;-0;b;"))) {
            same(before, y -> 0 * seeAnswers(y, new ArrayList<>()), 0);
            same(before, y -> 0 * y.fault(), 0);
        }
    }

    // ---- twins

    private void same(Calls before, Calls call, int answer) {
        for (Look look : Look.values()) {
            Used twin = new Used();
            before.of(twin);
            Used one = made(before, call, answer);
            compare(one.last(), twin, one, look);
        }
    }

    private Used made(Calls before, Calls call, int answer) {
        x = new Used();
        before.of(x);
        int got = call.of(x);
        is(got, answer);
        return x;
    }

    private void compare(String call, Used twin, Used one, Look look) {
        List<Integer> due = look.of(twin);
        List<Integer> seen = look.of(one);
        this.due.is("what is seen " + look + " behind " + call + ": " + seen + " the same as " + due, seen.equals(due) ? 1 : 0, 1);
    }

    /** More changes than the history keeps; two slots that differ. */
    private static int fill(Used y, String split, String pad) {
        y.prior(44);
        y.refine(0, 0, 66);
        y.save(0);
        y.hire(1, 4, 11, 1);
        y.hire(2, 3, 12, -2);
        y.hire(1, 1, 13, 3);
        y.save(1);
        y.hire(3, 2, 14, -4);
        y.hire(4, 1, 15, 5);
        y.prior(50);
        y.putAll(split);
        y.carryOut();
        y.putAll(pad);
        return 0;
    }

    private static int seeAnswers(Used y, List<Integer> seen) {
        seeState(y, seen);
        for (int what = 0; what < 3; what++) {
            seen.add(y.mean(what));
            seen.add(y.mostGained(what));
            for (int receiver = 0; receiver < 5; receiver++) {
                seen.add(y.worth(receiver, what));
            }
        }
        for (int posterior : new int[] {0, 1, 20, 41, 50, 79, 80, 99, 100}) {
            seen.add(y.value(posterior));
            for (int what = 0; what < 4; what++) {
                seen.add(y.envelope(posterior, what));
                seen.add(y.best(posterior, what));
            }
        }
        seen.add(y.fault());
        return seen.size();
    }

    private static void seeState(Used y, List<Integer> seen) {
        for (int what = 0; what < 7; what++) {
            seen.add(y.count(what));
        }
        for (int part = 0; part < 6; part++) {
            seen.add(y.part(part, 0));
            seen.add(y.part(part, 1));
        }
        for (int receiver = 0; receiver < 5; receiver++) {
            for (int what = 0; what < 4; what++) {
                seen.add(y.receiver(receiver, what));
            }
        }
    }

    private static void seeUndone(Used y, List<Integer> seen) {
        for (int i = 0; i < 7; i++) {
            seen.add(y.undo());
            seeState(y, seen);
        }
    }

    private static void seeSlots(Used y, List<Integer> seen) {
        for (int slot = 0; slot < 2; slot++) {
            seen.add(y.restore(slot));
            seeState(y, seen);
        }
        seen.add(y.undo());
        seeState(y, seen);
        seen.add(y.undo());
        seeState(y, seen);
    }

    private static void seePad(Used y, String more, List<Integer> seen) {
        seen.add(y.putAll(more));
        seen.add(y.fault());
        seen.add(y.carryOut());
        seeState(y, seen);
        seen.add(y.fault());
        seen.add(y.wipe());
        seen.add(y.undo());
        seeState(y, seen);
    }

    private static void seeLater(Used y, List<Integer> seen) {
        seen.add(y.refine(0, 10, 30));
        seen.add(y.join(1));
        seen.add(y.hire(1, 2, 3, 4));
        seen.add(y.dismiss(0));
        seeState(y, seen);
        seen.add(y.adopt());
        seen.add(y.save(0));
        seen.add(y.prior(33));
        for (int i = 0; i < 7; i++) {
            seen.add(y.undo());
            seen.add(y.count(0));
        }
        seen.add(y.restore(0));
        seeState(y, seen);
    }
}
