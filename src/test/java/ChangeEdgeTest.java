/** The boundary cases of the promises 1 to 7, a sentence a test. */
public final class ChangeEdgeTest extends Asker {
    private static final int[] BEYOND = {LEAST, LEAST + 1, -65536, -256, 256, 65536, MOST - 1, MOST};

    public static void main(String[] args) throws Exception {
        new ChangeEdgeTest().runAll();
    }

    // ---- promise 1

    void aNewObject() {
        says("Creates a prior of 30 hundredths, without receivers.");
        int[] counts = {30, 0, 1, 1, 1, 0, 0};
        for (int what = 0; what < counts.length; what++) {
            is(x.count(what), counts[what]);
        }
        parts(1, 30);
        is(x.receiver(0, 0), NO_SUCH);
        is(x.undo(), NOT_POSSIBLE);
        is(x.restore(0), NOT_POSSIBLE);
        is(x.restore(1), NOT_POSSIBLE);
        is(x.wipe(), 0);
    }

    void aNewObjectBesideAnother() {
        says("`SplitBeliefs()`: Creates a prior of 30 hundredths");
        Used y = x;
        y.prior(77);
        y.hire(1, 1, 1, 1);
        y.put('b');
        y.save(0);
        aNewObject();
        due.is("count(0) of the other one", y.count(0), 77);
        due.is("count(1) of the other one", y.count(1), 1);
        due.is("count(5) of the other one", y.count(5), 1);
        due.is("count(6) of the other one", y.count(6), 2);
    }

    // ---- promise 2

    void priorOfItsBounds() {
        says("`share`: 1 to 99");
        is(x.prior(1), 30);
        is(x.count(0), 1);
        is(x.prior(99), 1);
        is(x.count(0), 99);
        is(x.prior(2), 99);
        is(x.prior(98), 2);
        is(x.count(0), 98);
    }

    void priorOutOfRange() {
        says("Returns the previous prior; BAD_VALUE if share is out of range.");
        is(x.prior(0), BAD_VALUE);
        is(x.prior(100), BAD_VALUE);
        is(x.prior(-1), BAD_VALUE);
        is(x.prior(101), BAD_VALUE);
        for (int share : BEYOND) {
            is(x.prior(share), BAD_VALUE);
        }
        is(x.prior(30), 30);
    }

    void priorMakesOnePart() {
        says("Changes the prior; the split is one part then");
        splitOf(50, "s1@20,1@30,1@40,1@60,1@70,1@80");
        is(x.prior(50), 50);
        parts(1, 50);
        x.refine(0, 0, 100);
        is(x.prior(51), 50);
        parts(1, 51);
        hireFive();
        x.prior(1);
        is(x.count(1), 5);
    }

    // ---- promise 3

    void hireLoss() {
        says("`loss`: 1 to 99");
        is(x.hire(0, 50, 50, 50), BAD_VALUE);
        is(x.hire(100, 50, 50, 50), BAD_VALUE);
        for (int loss : BEYOND) {
            is(x.hire(loss, 50, 50, 50), BAD_VALUE);
        }
        is(x.hire(1, 50, 50, 50), 0);
        is(x.hire(99, 50, 50, 50), 1);
        is(x.receiver(0, 0), 1);
        is(x.receiver(1, 0), 99);
        is(x.count(1), 2);
    }

    void hireGain() {
        says("`gain`: 1 to 99");
        is(x.hire(50, 0, 50, 50), BAD_VALUE);
        is(x.hire(50, 100, 50, 50), BAD_VALUE);
        for (int gain : BEYOND) {
            is(x.hire(50, gain, 50, 50), BAD_VALUE);
        }
        is(x.hire(50, 1, 50, 50), 0);
        is(x.hire(50, 99, 50, 50), 1);
        is(x.receiver(0, 1), 1);
        is(x.receiver(1, 1), 99);
        is(x.count(1), 2);
    }

    void hirePay() {
        says("`pay`: 0 to 99");
        is(x.hire(50, 50, -1, 50), BAD_VALUE);
        is(x.hire(50, 50, 100, 50), BAD_VALUE);
        for (int pay : BEYOND) {
            is(x.hire(50, 50, pay, 50), BAD_VALUE);
        }
        is(x.hire(50, 50, 0, 50), 0);
        is(x.hire(50, 50, 99, 50), 1);
        is(x.receiver(0, 2), 0);
        is(x.receiver(1, 2), 99);
        is(x.count(1), 2);
    }

    void hireBonus() {
        says("`bonus`: -99 to 99");
        is(x.hire(50, 50, 50, -100), BAD_VALUE);
        is(x.hire(50, 50, 50, 100), BAD_VALUE);
        for (int bonus : BEYOND) {
            is(x.hire(50, 50, 50, bonus), BAD_VALUE);
        }
        is(x.hire(50, 50, 50, -99), 0);
        is(x.hire(50, 50, 50, 99), 1);
        is(x.receiver(0, 3), 1);
        is(x.receiver(1, 3), 199);
        is(x.count(1), 2);
    }

    void hireReturnsTheNumber() {
        says("Returns the number; BAD_VALUE if an argument is out of range");
        for (int i = 0; i < 5; i++) {
            is(x.hire(1, 1, 1, 1), i);
        }
        is(x.dismiss(0), 4);
        is(x.hire(1, 1, 1, 1), 4);
    }

    void hireASixth() {
        says("TOO_MANY if there are 5 receivers");
        hireFive();
        is(x.hire(1, 1, 1, 1), TOO_MANY);
        is(x.count(1), 5);
        is(x.dismiss(4), 4);
        is(x.hire(9, 8, 7, 6), 4);
        is(x.hire(1, 1, 1, 1), TOO_MANY);
        receiverIs(4, 9, 8, 7, 106);
    }

    void hireErrorsInOrder() {
        says("BAD_VALUE if an argument is out of range; TOO_MANY if there are 5 receivers");
        hireFive();
        is(x.hire(0, 1, 1, 1), BAD_VALUE);
        is(x.hire(1, 100, 1, 1), BAD_VALUE);
        is(x.hire(1, 1, -1, 1), BAD_VALUE);
        is(x.hire(1, 1, 1, 100), BAD_VALUE);
        is(x.hire(1, 1, 1, -99), TOO_MANY);
    }

    // ---- promise 4

    void dismissCounts() {
        says("Returns how many receivers there are then");
        hireFive();
        for (int left = 4; left >= 0; left--) {
            is(x.dismiss(left), left);
            is(x.count(1), left);
        }
    }

    void dismissNone() {
        says("NO_SUCH if there is no such receiver");
        is(x.dismiss(0), NO_SUCH);
        hireFive();
        is(x.dismiss(-1), NO_SUCH);
        is(x.dismiss(5), NO_SUCH);
        for (int receiver : BEYOND) {
            is(x.dismiss(receiver), NO_SUCH);
        }
        is(x.dismiss(4), 4);
        is(x.dismiss(4), NO_SUCH);
        is(x.dismiss(0), 3);
        is(x.dismiss(3), NO_SUCH);
        is(x.dismiss(2), 2);
        is(x.dismiss(0), 1);
        is(x.dismiss(1), NO_SUCH);
        is(x.dismiss(0), 0);
        is(x.dismiss(0), NO_SUCH);
    }

    // ---- promise 5

    void refineSplitsOne() {
        says("Splits a part of the split into two, which have its weight together and average to its posterior");
        is(x.refine(0, 29, 31), 2);
        parts(1, 29, 1, 31);
        is(x.refine(1, 0, 100), 3);
        parts(69, 0, 100, 29, 31, 100);
    }

    void refineMultiplies() {
        says("If that wants weights that are no whole numbers, all weights of the split are multiplied first");
        splitOf(50, "s3@10,3@90");
        is(x.refine(0, 9, 11), 3);
        parts(1, 9, 1, 11, 2, 90);
        is(x.refine(2, 80, 100), 4);
        parts(1, 9, 1, 11, 1, 80, 1, 100);
        is(x.refine(0, 8, 11), 4);
        parts(2, 8, 4, 11, 3, 80, 3, 100);
        is(x.refine(1, 10, 16), 5);
        parts(6, 8, 10, 10, 2, 16, 9, 80, 9, 100);
    }

    void refineOneWithoutWeight() {
        says("if one of the two has no weight, it is none");
        is(x.refine(0, 30, 100), 1);
        parts(1, 30);
        is(x.refine(0, 0, 30), 1);
        parts(1, 30);
        is(x.refine(0, 0, 100), 2);
        is(x.refine(0, 0, 100), 2);
        is(x.refine(0, 0, 1), 2);
        is(x.refine(1, 0, 100), 2);
        is(x.refine(1, 99, 100), 2);
        parts(7, 0, 3, 100);
        is(x.count(6), 6);
        splitOf(50, "s1@20,1@30,1@40,1@60,1@70,1@80");
        is(x.refine(2, 40, 41), 6);
        is(x.refine(2, 39, 40), 6);
        parts(1, 20, 1, 30, 1, 40, 1, 60, 1, 70, 1, 80);
    }

    void refineByItself() {
        says("if both posteriors are that of the part, nothing becomes different");
        is(x.refine(0, 30, 30), 1);
        parts(1, 30);
        is(x.refine(0, 0, 100), 2);
        is(x.refine(0, 0, 0), 2);
        is(x.refine(1, 100, 100), 2);
        parts(7, 0, 3, 100);
        is(x.count(6), 4);
        splitOf(50, "s1@20,1@30,1@40,1@60,1@70,1@80");
        is(x.refine(5, 80, 80), 6);
        parts(1, 20, 1, 30, 1, 40, 1, 60, 1, 70, 1, 80);
    }

    void refinePart() {
        says("Returns how many parts there are then; NO_SUCH if there is no such part");
        is(x.refine(1, 0, 100), NO_SUCH);
        is(x.refine(-1, 0, 100), NO_SUCH);
        for (int part : BEYOND) {
            is(x.refine(part, 0, 100), NO_SUCH);
        }
        is(x.refine(0, 0, 100), 2);
        is(x.refine(2, 100, 100), NO_SUCH);
        is(x.refine(1, 100, 100), 2);
        splitOf(50, "s1@20,1@30,1@40,1@60,1@70,1@80");
        is(x.refine(6, 80, 80), NO_SUCH);
        is(x.refine(5, 70, 90), 6);
        is(x.refine(0, 20, 20), 6);
    }

    void refineLower() {
        says("`lower`: 0 to its posterior");
        is(x.refine(0, -1, 40), BAD_VALUE);
        is(x.refine(0, 31, 40), BAD_VALUE);
        is(x.refine(0, 31, 31), BAD_VALUE);
        for (int lower : BEYOND) {
            is(x.refine(0, lower, 40), BAD_VALUE);
        }
        is(x.refine(0, 30, 40), 1);
        parts(1, 30);
        is(x.refine(0, 0, 40), 2);
        parts(1, 0, 3, 40);
        is(x.refine(0, 1, 40), BAD_VALUE);
        is(x.refine(0, 0, 40), 2);
        is(x.refine(1, 40, 40), 2);
        is(x.refine(1, 41, 41), BAD_VALUE);
        parts(1, 0, 3, 40);
    }

    void refineUpper() {
        says("`upper`: its posterior to 100");
        is(x.refine(0, 20, 29), BAD_VALUE);
        is(x.refine(0, 20, 101), BAD_VALUE);
        is(x.refine(0, 29, 29), BAD_VALUE);
        for (int upper : BEYOND) {
            is(x.refine(0, 20, upper), BAD_VALUE);
        }
        is(x.refine(0, 20, 30), 1);
        parts(1, 30);
        is(x.refine(0, 20, 100), 2);
        parts(7, 20, 1, 100);
        is(x.refine(1, 20, 99), BAD_VALUE);
        is(x.refine(1, 20, 101), BAD_VALUE);
        is(x.refine(1, 20, 100), 2);
        parts(7, 20, 1, 100);
    }

    void refineAtMost6Parts() {
        says("TOO_MANY if there would be more than 6 parts");
        splitOf(50, "s1@20,1@30,2@50,1@70,1@80");
        is(x.refine(2, 49, 51), 6);
        parts(1, 20, 1, 30, 1, 49, 1, 51, 1, 70, 1, 80);
        is(x.refine(0, 19, 21), TOO_MANY);
        is(x.refine(2, 48, 50), TOO_MANY);
        is(x.refine(5, 79, 100), TOO_MANY);
        parts(1, 20, 1, 30, 1, 49, 1, 51, 1, 70, 1, 80);
    }

    void refineBoundsOfWhatIsThen() {
        says("Bounds are asked of what there is then.");
        splitOf(50, "s1@20,1@30,1@40,1@60,1@70,1@80");
        is(x.refine(2, 30, 50), 6);
        parts(2, 20, 3, 30, 1, 50, 2, 60, 2, 70, 2, 80);
        is(x.refine(2, 20, 80), 5);
        parts(5, 20, 6, 30, 4, 60, 4, 70, 5, 80);
        splitOf(50, "s999@0,500@25,500@75,999@100");
        is(x.refine(1, 0, 100), 3);
        parts(687, 0, 250, 75, 562, 100);
        splitOf(50, "s499@0,2@50,499@100");
        is(x.refine(1, 0, 100), 2);
        parts(1, 0, 1, 100);
    }

    void refineUpTo999() {
        says("TOO_MANY if there would be more than 6 parts, or a weight would be above 999");
        splitOf(50, "s1@0,998@49,2@50,998@51,1@100");
        is(x.refine(2, 49, 51), 4);
        parts(1, 0, 999, 49, 999, 51, 1, 100);
        splitOf(50, "s1@0,998@49,4@50,998@51,1@100");
        is(x.refine(2, 49, 51), TOO_MANY);
        parts(1, 0, 998, 49, 4, 50, 998, 51, 1, 100);
        splitOf(50, "s333@0,1@50,333@100");
        is(x.refine(1, 49, 52), 4);
        parts(999, 0, 2, 49, 1, 52, 999, 100);
        splitOf(50, "s334@0,1@50,334@100");
        is(x.refine(1, 49, 52), TOO_MANY);
        parts(334, 0, 1, 50, 334, 100);
        splitOf(50, "s500@0,1@50,500@100");
        is(x.refine(1, 49, 51), TOO_MANY);
        parts(500, 0, 1, 50, 500, 100);
        is(x.refine(1, 0, 100), 2);
        parts(1, 0, 1, 100);
    }

    void refineErrorsInOrder() {
        says("NO_SUCH if there is no such part; BAD_VALUE if a posterior is out of range; TOO_MANY");
        is(x.refine(1, -1, 101), NO_SUCH);
        is(x.refine(-1, 101, -1), NO_SUCH);
        splitOf(50, "s1@20,1@30,1@40,1@60,1@70,1@80");
        is(x.refine(6, 79, 101), NO_SUCH);
        is(x.refine(5, 79, 101), BAD_VALUE);
        is(x.refine(5, -1, 81), BAD_VALUE);
        is(x.refine(5, 79, 81), TOO_MANY);
        splitOf(50, "s500@0,1@50,500@100");
        is(x.refine(1, 51, 49), BAD_VALUE);
        is(x.refine(1, -1, 51), BAD_VALUE);
        is(x.refine(1, 49, 51), TOO_MANY);
    }

    // ---- promise 6

    void joinNeighbours() {
        says("Joins two neighbouring parts to one: their weights together, at the mean of their posteriors by weights");
        splitOf(50, "s1@0,3@20,3@80,1@100");
        is(x.join(0), 3);
        parts(4, 15, 3, 80, 1, 100);
        x.undo();
        is(x.join(2), 3);
        parts(1, 0, 3, 20, 4, 85);
        x.undo();
        is(x.join(1), 3);
        parts(1, 0, 6, 50, 1, 100);
        splitOf(50, "s1@0,1@50,1@100");
        is(x.join(0), 2);
        parts(2, 25, 1, 100);
        is(x.join(0), 1);
        parts(1, 50);
    }

    void joinToOne() {
        says("Returns how many parts there are then; NO_SUCH if there are no such two parts");
        is(x.join(0), NO_SUCH);
        is(x.refine(0, 0, 100), 2);
        is(x.join(1), NO_SUCH);
        is(x.join(-1), NO_SUCH);
        is(x.join(0), 1);
        parts(1, 30);
        is(x.join(0), NO_SUCH);
    }

    void joinPart() {
        says("NO_SUCH if there are no such two parts");
        splitOf(50, "s1@20,1@30,1@40,1@60,1@70,1@80");
        is(x.join(6), NO_SUCH);
        is(x.join(5), NO_SUCH);
        is(x.join(-1), NO_SUCH);
        for (int part : BEYOND) {
            is(x.join(part), NO_SUCH);
        }
        is(x.join(4), 5);
        parts(1, 20, 1, 30, 1, 40, 1, 60, 2, 75);
        is(x.join(4), NO_SUCH);
        is(x.join(0), 4);
        parts(2, 25, 1, 40, 1, 60, 2, 75);
    }

    void joinNoWholeNumber() {
        says("NOT_POSSIBLE if the mean is no whole number");
        splitOf(50, "s1@49,998@50,1@51");
        is(x.join(0), NOT_POSSIBLE);
        is(x.join(1), NOT_POSSIBLE);
        parts(1, 49, 998, 50, 1, 51);
        splitOf(50, "s1@20,1@21,2@79,1@80,1@21");
        parts(1, 20, 2, 21, 2, 79, 1, 80);
        is(x.join(0), NOT_POSSIBLE);
        is(x.join(1), 3);
        parts(1, 20, 4, 50, 1, 80);
        is(x.join(0), 2);
        parts(5, 44, 1, 80);
        is(x.join(0), 1);
        parts(1, 50);
    }

    void joinUpTo999() {
        says("TOO_MANY if a weight would be above 999.");
        splitOf(50, "s1@0,333@48,666@51,1@100");
        is(x.join(1), 3);
        parts(1, 0, 999, 50, 1, 100);
        splitOf(50, "s1@0,500@49,500@51,1@100");
        is(x.join(1), TOO_MANY);
        parts(1, 0, 500, 49, 500, 51, 1, 100);
        splitOf(50, "s999@0,999@40,998@60,1@60,999@100");
        parts(1, 0, 1, 40, 1, 60, 1, 100);
        splitOf(50, "s999@49,998@50,999@51");
        is(x.join(0), NOT_POSSIBLE);
        splitOf(50, "s2@0,501@49,501@51,2@100");
        is(x.join(1), 3);
        parts(1, 0, 501, 50, 1, 100);
    }

    void joinErrorsInOrder() {
        says("NOT_POSSIBLE if the mean is no whole number; TOO_MANY if a weight would be above 999");
        splitOf(50, "s998@49,999@50,998@51");
        is(x.join(2), NO_SUCH);
        is(x.join(0), NOT_POSSIBLE);
        is(x.join(1), NOT_POSSIBLE);
        parts(998, 49, 999, 50, 998, 51);
        splitOf(50, "s1@0,500@49,500@51,1@100");
        is(x.join(3), NO_SUCH);
        is(x.join(0), NOT_POSSIBLE);
        is(x.join(1), TOO_MANY);
    }

    // ---- promise 7

    void adoptCounts() {
        says("Returns how many parts it has.");
        is(x.adopt(), 2);
        parts(1, 0, 30, 31);
        hire(FROM_50, 10, 0);
        x.prior(49);
        is(x.adopt(), 2);
        parts(1, 0, 49, 50);
        x.prior(50);
        is(x.adopt(), 1);
        parts(1, 50);
        x.prior(51);
        is(x.adopt(), 2);
        parts(1, 50, 1, 52);
    }

    void adoptAtTheEnds() {
        says("Takes the best split of the prior.");
        x.prior(1);
        is(x.adopt(), 2);
        parts(1, 0, 1, 2);
        x.prior(99);
        is(x.adopt(), 2);
        parts(1, 0, 99, 100);
        hire(FROM_1, 10, 0);
        x.prior(1);
        is(x.adopt(), 1);
        parts(1, 1);
        hire(FROM_99, 10, 90);
        x.prior(99);
        is(x.adopt(), 1);
        parts(1, 99);
        is(x.count(0), 99);
        is(x.count(1), 2);
    }

    void adoptInsteadOfAnySplit() {
        says("Takes the best split of the prior. This is a change");
        splitOf(50, "s1@20,1@30,1@40,1@60,1@70,1@80");
        hire(FROM_60, 6, 0);
        is(x.count(4), 0);
        is(x.adopt(), 2);
        parts(1, 0, 5, 60);
        is(x.count(4), 1);
        is(x.adopt(), 2);
        parts(1, 0, 5, 60);
        is(x.count(6), 5);
    }
}
