/** The boundary cases of the promises 21 to 23, a sentence a test. */
public final class UndoEdgeTest extends Asker {
    private static final int[] BEYOND = {LEAST, LEAST + 1, -65536, -256, -1, 2, 3, 256, 65536, MOST - 1, MOST};

    /** A call on an object. */
    private interface Call {
        int of(Used x);
    }

    public static void main(String[] args) throws Exception {
        new UndoEdgeTest().runAll();
    }

    // ---- promise 21

    void undoNone() {
        says("Returns how many changes can be undone then; NOT_POSSIBLE if there is none.");
        is(x.undo(), NOT_POSSIBLE);
        is(x.undo(), NOT_POSSIBLE);
        is(x.prior(40), 30);
        is(x.undo(), 0);
        is(x.count(0), 30);
        is(x.undo(), NOT_POSSIBLE);
        is(x.count(0), 30);
        is(x.count(6), 0);
    }

    void undoSix() {
        says("A history of at most 6 states is kept");
        for (int i = 1; i <= 6; i++) {
            x.prior(30 + i);
        }
        is(x.count(6), 6);
        for (int i = 5; i >= 0; i--) {
            is(x.undo(), i);
            is(x.count(0), 30 + i);
        }
        is(x.undo(), NOT_POSSIBLE);
    }

    void undoOfMoreThanSix() {
        says("when one more is recorded, the oldest one is dropped");
        for (int changes : new int[] {7, 8, 13, 14, 15, 50}) {
            fresh();
            for (int i = 1; i <= changes; i++) {
                x.prior(30 + i);
            }
            is(x.count(6), 6);
            for (int i = 5; i >= 0; i--) {
                is(x.undo(), i);
                is(x.count(0), 30 + changes - 6 + i);
            }
            is(x.undo(), NOT_POSSIBLE);
            is(x.count(0), 30 + changes - 6);
        }
    }

    void undoAndChangesInTurn() {
        says("Undoes the latest change");
        for (int i = 1; i <= 6; i++) {
            x.prior(30 + i);
        }
        is(x.undo(), 5);
        is(x.undo(), 4);
        x.prior(50);
        x.prior(51);
        x.prior(52);
        is(x.count(6), 6);
        int[] due = {51, 50, 34, 33, 32, 31};
        for (int i = 0; i < 6; i++) {
            is(x.undo(), 5 - i);
            is(x.count(0), due[i]);
        }
        is(x.undo(), NOT_POSSIBLE);
        x.prior(60);
        is(x.undo(), 0);
        is(x.count(0), 31);
    }

    void undoBringsEverythingBack() {
        says("everything except the pad, the slots and the history is as it was before it");
        begin(x);
        x.carryOut();
        x.putAll("p70;b");
        x.save(0);
        x.undo();
        asBegun();
        is(x.count(5), 5);
        is(x.fault(), NONE);
        is(x.restore(0), 60);
        is(x.carryOut(), 2);
        is(x.count(0), 70);
    }

    void undoLeavesTheSlots() {
        says("Undoes the latest change: everything except the pad, the slots and the history");
        x.prior(40);
        x.save(0);
        x.prior(50);
        x.save(1);
        is(x.undo(), 1);
        is(x.undo(), 0);
        is(x.restore(0), 40);
        is(x.restore(1), 50);
        is(x.undo(), 1);
        is(x.undo(), 0);
        is(x.count(0), 30);
        x.save(0);
        is(x.restore(0), 30);
    }

    void undoLeavesThePad() {
        says("everything except the pad");
        x.prior(40);
        x.putAll("p50;b;");
        is(x.undo(), 0);
        is(x.count(5), 6);
        is(x.fault(), 6);
        x.put('b');
        is(x.carryOut(), 3);
        is(x.undo(), 0);
        is(x.count(5), 0);
        is(x.count(0), 30);
    }

    void eachChangeIsRecorded() {
        says("each method that is a change, and returns no error, records the state before it");
        recorded(y -> y.prior(60), 50);
        recorded(y -> y.hire(9, 9, 9, 9), 2);
        recorded(y -> y.dismiss(0), 1);
        recorded(y -> y.dismiss(1), 1);
        recorded(y -> y.refine(0, 0, 50), 5);
        recorded(y -> y.join(1), 3);
        recorded(y -> y.adopt(), 1);
        recorded(y -> y.carryOut(), 5);
        recorded(y -> y.restore(0), 30);
    }

    void changesOfNothingAreRecorded() {
        says("(also if nothing is different then)");
        recorded(y -> y.refine(0, 25, 25), 4);
        recorded(y -> y.refine(0, 25, 30), 4);
        recorded(y -> y.refine(3, 0, 75), 4);
        recorded(y -> y.restore(1), 50);
        recorded(y -> y.wipe() + y.putAll("p0") + y.carryOut(), 2 + BEGUN_PAD);
        fresh();
        is(x.prior(30), 30);
        is(x.count(6), 1);
        is(x.adopt(), 2);
        is(x.adopt(), 2);
        is(x.count(6), 3);
        is(x.undo(), 2);
        parts(1, 0, 30, 31);
        is(x.undo(), 1);
        parts(1, 30);
    }

    void othersRecordNothing() {
        says("each method that is a change");
        begin(x);
        int kept = x.count(6);
        x.put('b');
        x.wipe();
        x.fault();
        x.save(0);
        x.receiver(0, 0);
        x.part(0, 0);
        x.value(0);
        x.mean(0);
        x.worth(0, 0);
        x.envelope(0, 0);
        x.best(0, 0);
        x.mostGained(0);
        is(x.count(6), kept);
        is(x.undo(), kept - 1);
        is(x.undo(), kept - 2);
        is(x.count(6), kept - 2);
    }

    void refusedChangesRecordNothing() {
        says("and returns no error");
        x.prior(50);
        x.prior(0);
        x.hire(0, 0, 0, 0);
        x.dismiss(0);
        x.refine(1, 0, 0);
        x.refine(0, 51, 51);
        x.join(0);
        x.restore(0);
        x.restore(2);
        x.carryOut();
        x.putAll("b;");
        x.carryOut();
        is(x.count(6), 1);
        is(x.undo(), 0);
        is(x.count(0), 30);
    }

    void ordersRecordNothing() {
        says("An order of a text records nothing by itself.");
        x.prior(40);
        carriesOut("p41;p42;p43;p44;p45;p46;p47;p48", 8);
        is(x.count(6), 2);
        is(x.undo(), 1);
        is(x.count(0), 40);
        carriesOut("p41;r1,1$1;-0;b;s1@40,1@42;p43;p0", 6);
        is(x.count(6), 2);
        is(x.undo(), 1);
        is(x.count(0), 40);
        is(x.count(1), 0);
        is(x.undo(), 0);
        is(x.count(0), 30);
    }

    // ---- promise 22

    void saveSlot() {
        says("Returns the prior; BAD_VALUE if there is no such slot.");
        is(x.save(0), 30);
        is(x.save(1), 30);
        for (int slot : BEYOND) {
            is(x.save(slot), BAD_VALUE);
        }
        x.prior(99);
        is(x.save(0), 99);
        x.prior(1);
        is(x.save(1), 1);
        is(x.restore(0), 99);
        is(x.restore(1), 1);
    }

    void saveEverything() {
        says("Saves everything except the pad, the history and the slots in a slot");
        begin(x);
        is(x.save(0), 50);
        x.wipe();
        x.prior(60);
        x.dismiss(0);
        x.dismiss(0);
        hireFive();
        x.putAll("p7");
        int kept = x.count(6);
        is(x.restore(0), 50);
        asBegun();
        is(x.count(5), 2);
        is(x.count(6), Math.min(6, kept + 1));
        is(x.carryOut(), 1);
        is(x.count(0), 7);
    }

    void saveOverwrites() {
        says("and overwrites what was saved there");
        x.hire(1, 1, 1, 1);
        x.refine(0, 0, 100);
        x.save(0);
        x.save(1);
        x.dismiss(0);
        x.prior(40);
        is(x.save(0), 40);
        x.prior(50);
        is(x.restore(0), 40);
        parts(1, 40);
        is(x.count(1), 0);
        is(x.restore(1), 30);
        parts(7, 0, 3, 100);
        is(x.count(1), 1);
    }

    void saveIsNoChange() {
        says("`slot`: 0 or 1");
        x.prior(40);
        is(x.save(0), 40);
        is(x.save(1), 40);
        is(x.count(6), 1);
        x.put('b');
        is(x.save(1), 40);
        is(x.count(5), 1);
        is(x.undo(), 0);
        is(x.count(0), 30);
    }

    void laterChangesLeaveWhatWasSaved() {
        says("overwrites what was saved there.");
        begin(x);
        x.save(0);
        x.hire(7, 7, 7, 7);
        x.refine(1, 0, 100);
        x.restore(0);
        asBegun();
        x.dismiss(0);
        x.join(1);
        x.prior(60);
        x.restore(0);
        asBegun();
    }

    // ---- promise 23

    void restoreSlot() {
        says("BAD_VALUE if there is no such slot; NOT_POSSIBLE if nothing was saved in it");
        is(x.restore(0), NOT_POSSIBLE);
        is(x.restore(1), NOT_POSSIBLE);
        for (int slot : BEYOND) {
            is(x.restore(slot), BAD_VALUE);
        }
        x.save(1);
        is(x.restore(0), NOT_POSSIBLE);
        is(x.restore(1), 30);
        for (int slot : BEYOND) {
            is(x.restore(slot), BAD_VALUE);
        }
        fresh();
        x.save(0);
        is(x.restore(1), NOT_POSSIBLE);
        is(x.restore(0), 30);
    }

    void restoreNothingThatWasRefused() {
        says("NOT_POSSIBLE if nothing was saved in it");
        x.save(2);
        x.save(-1);
        x.prior(40);
        is(x.restore(0), NOT_POSSIBLE);
        is(x.restore(1), NOT_POSSIBLE);
        is(x.count(0), 40);
        is(x.count(6), 1);
    }

    void restoreTheLast() {
        says("Restores what was saved last in a slot, which keeps it");
        x.prior(40);
        x.save(0);
        x.prior(50);
        x.save(0);
        for (int i = 0; i < 3; i++) {
            x.prior(60 + i);
            is(x.restore(0), 50);
            is(x.count(0), 50);
        }
        is(x.restore(0), 50);
        is(x.restore(1), NOT_POSSIBLE);
    }

    void restoreIsAChange() {
        says("Restores what was saved last in a slot, which keeps it. This is a change");
        x.save(0);
        x.prior(40);
        is(x.restore(0), 30);
        is(x.count(6), 2);
        is(x.restore(0), 30);
        is(x.count(6), 3);
        is(x.undo(), 2);
        is(x.count(0), 30);
        is(x.undo(), 1);
        is(x.count(0), 40);
        is(x.undo(), 0);
        is(x.count(0), 30);
        is(x.restore(0), 30);
    }

    void restoreReturnsThePriorThen() {
        says("Returns the prior then");
        x.prior(1);
        x.save(0);
        x.prior(99);
        x.save(1);
        is(x.restore(0), 1);
        is(x.restore(1), 99);
        is(x.count(0), 99);
    }

    // ---- an object with something everywhere

    private static final int BEGUN_PAD = 22;

    /** Four changes; the slot 0 holds a new object, the slot 1 the object as it is then; the pad holds five orders. */
    private static void begin(Used x) {
        x.save(0);
        x.hire(1, 1, 10, 5);
        x.hire(2, 3, 4, -5);
        x.prior(50);
        x.putAll("s1@25,1@49,1@51,1@75");
        x.carryOut();
        x.save(1);
        x.putAll("p60;-0;-0;r3,4$5;s1@60");
    }

    private void asBegun() {
        is(x.count(0), 50);
        parts(1, 25, 1, 49, 1, 51, 1, 75);
        is(x.count(1), 2);
        receiverIs(0, 1, 1, 10, 105, 50);
        receiverIs(1, 2, 3, 4, 95, 40);
    }

    /** Of a new object, as the rows of a history that was used before could hold the right state by chance. */
    private void recorded(Call change, int answer) {
        fresh();
        begin(x);
        int kept = x.count(6);
        is(change.of(x), answer);
        is(x.count(6), kept + 1);
        is(x.undo(), kept);
        asBegun();
    }
}
