/** The boundary cases of the promises 8 to 16, a sentence a test. */
public final class AskEdgeTest extends Asker {
    private static final int[] BEYOND = {LEAST, LEAST + 1, -65536, -256, -1, 256, 65536, MOST - 1, MOST};

    public static void main(String[] args) throws Exception {
        new AskEdgeTest().runAll();
    }

    // ---- promise 8

    void receiverWhat() {
        says("0 its loss, 1 its gain, 2 the pay, 3 the bonus and 100, 4 the least posterior at which it acts");
        x.hire(1, 2, 3, 4);
        x.hire(99, 99, 99, 99);
        x.hire(2, 1, 0, -99);
        x.hire(99, 1, 0, 0);
        x.hire(1, 99, 1, -1);
        receiverIs(0, 1, 2, 3, 104, 34);
        receiverIs(1, 99, 99, 99, 199, 50);
        receiverIs(2, 2, 1, 0, 1, 67);
        receiverIs(3, 99, 1, 0, 100, 99);
        receiverIs(4, 1, 99, 1, 99, 1);
    }

    void noSuchReceiver() {
        says("Returns the number; NO_SUCH if there is no such receiver");
        is(x.receiver(0, 0), NO_SUCH);
        hireFive();
        is(x.receiver(4, 0), 4);
        is(x.receiver(5, 0), NO_SUCH);
        for (int receiver : BEYOND) {
            is(x.receiver(receiver, 0), NO_SUCH);
        }
        x.dismiss(0);
        is(x.receiver(3, 0), 4);
        is(x.receiver(4, 0), NO_SUCH);
    }

    void receiverWhatOutOfRange() {
        says("NO_SUCH if there is no such receiver; BAD_VALUE if what is out of range");
        hire(FROM_50, 1, 1);
        is(x.receiver(0, 4), 50);
        is(x.receiver(0, 5), BAD_VALUE);
        for (int what : BEYOND) {
            is(x.receiver(0, what), BAD_VALUE);
            is(x.receiver(1, what), NO_SUCH);
        }
        is(x.receiver(1, 5), NO_SUCH);
        is(x.receiver(-1, 5), NO_SUCH);
    }

    // ---- promise 9

    void partWhat() {
        says("0 its weight, 1 its posterior, 2 the receivers who act there, as a set, 3 the value of the sender there, and 1000");
        int[] of30 = {1, 30, 0, 1000};
        for (int what = 0; what < 4; what++) {
            is(x.part(0, what), of30[what]);
        }
        splitOf(50, "s1@0,999@50,1@100");
        hireFive();
        int[][] due = {{1, 0, 0, 1000}, {999, 50, 7, 1036}, {1, 100, 31, 1068}};
        for (int part = 0; part < due.length; part++) {
            for (int what = 0; what < 4; what++) {
                is(x.part(part, what), due[part][what]);
            }
        }
    }

    void partOfTheGreatestAndTheLeastValue() {
        says("3 the value of the sender there, and 1000");
        for (int i = 0; i < 5; i++) {
            hire(FROM_50, 99, 99);
        }
        x.prior(50);
        is(x.part(0, 3), 1990);
        x.prior(49);
        is(x.part(0, 3), 1000);
        fresh();
        for (int i = 0; i < 5; i++) {
            hire(FROM_50, 0, -99);
        }
        x.prior(50);
        is(x.part(0, 3), 505);
        is(x.part(0, 2), 31);
    }

    void noSuchPart() {
        says("Returns the number; NO_SUCH if there is no such part");
        is(x.part(0, 0), 1);
        is(x.part(1, 0), NO_SUCH);
        for (int part : BEYOND) {
            is(x.part(part, 0), NO_SUCH);
        }
        splitOf(50, "s1@20,1@30,1@40,1@60,1@70,1@80");
        is(x.part(5, 1), 80);
        is(x.part(6, 1), NO_SUCH);
        x.prior(40);
        is(x.part(1, 1), NO_SUCH);
    }

    void partWhatOutOfRange() {
        says("NO_SUCH if there is no such part; BAD_VALUE if what is out of range");
        is(x.part(0, 3), 1000);
        is(x.part(0, 4), BAD_VALUE);
        for (int what : BEYOND) {
            is(x.part(0, what), BAD_VALUE);
            is(x.part(1, what), NO_SUCH);
        }
        is(x.part(1, 4), NO_SUCH);
        is(x.part(-1, 4), NO_SUCH);
    }

    // ---- promise 10

    void valueOutOfRange() {
        says("Returns the value; BAD_VALUE if posterior is not 0 to 100.");
        hire(FROM_50, 7, 0);
        is(x.value(0), 1000);
        is(x.value(100), 1007);
        is(x.value(101), BAD_VALUE);
        for (int posterior : BEYOND) {
            is(x.value(posterior), BAD_VALUE);
        }
    }

    void greatestAndLeastValue() {
        says("Returns the value of the sender at a posterior, and 1000.");
        is(x.value(50), 1000);
        for (int i = 0; i < 5; i++) {
            hire(FROM_99, 99, 99);
        }
        is(x.value(98), 1000);
        is(x.value(99), 1990);
        fresh();
        for (int i = 0; i < 5; i++) {
            hire(FROM_1, 0, -99);
        }
        is(x.value(0), 1000);
        is(x.value(1), 505);
    }

    // ---- promise 11

    void meanWhat() {
        says("Returns the number; BAD_VALUE if what is neither 0 nor 1.");
        is(x.mean(0), 10000000);
        is(x.mean(1), 1);
        is(x.mean(2), BAD_VALUE);
        for (int what : BEYOND) {
            is(x.mean(what), BAD_VALUE);
        }
    }

    void greatestAndLeastMean() {
        says("0 the number above the line, and 10000000, 1 that below it");
        for (int i = 0; i < 5; i++) {
            hire(FROM_1, 99, 99);
        }
        mean(990, 1);
        x.prior(50);
        carriesOut("s998@47,999@48,999@49,999@51,999@52,998@53", 1);
        mean(990, 1);
        x.dismiss(4);
        hire(FROM_50, 99, 99);
        // 990 behind 50, 396 ahead of it
        mean(693, 1);
        x.prior(50);
        carriesOut("s999@0,998@1,999@49,999@51,998@99,999@100", 1);
        mean((998 + 999) * 396 + (999 + 998 + 999) * 990, 2 * (999 + 998 + 999), 4);
        fresh();
        for (int i = 0; i < 5; i++) {
            hire(FROM_1, 0, -99);
        }
        mean(-495, 1);
        x.prior(50);
        carriesOut("s1@0,999@50,1@100", 1);
        mean(-495 * 1000, 1001, 11);
    }

    /** In lowest terms by the divisor that is told. */
    private void mean(int above, int below, int divisor) {
        mean(above / divisor, below / divisor);
        due.is("the divisor divides", above % divisor + below % divisor, 0);
    }

    // ---- promise 12

    void worthBy100() {
        says("Returns the mean worth of a receiver by the split, divided by 100, as a fraction.");
        hire(FROM_1, 0, 0);
        x.prior(1);
        worth(0, 0, 1);
        x.prior(2);
        worth(0, 1, 1);
        x.prior(99);
        worth(0, 98, 1);
        x.refine(0, 0, 100);
        worth(0, 9801, 100);
        hire(FROM_99, 0, 0);
        worth(1, 99, 100);
        x.prior(99);
        worth(1, 0, 1);
        x.prior(98);
        worth(1, 0, 1);
    }

    void worthOfGreatWeights() {
        says("0 the number above the line, 1 that below it");
        x.hire(99, 99, 0, 0);
        splitOf(50, "s998@47,999@48,999@49,999@51,999@52,998@53");
        x.hire(99, 99, 0, 0);
        // 99 * (2 * 999 + 4 * 999 + 6 * 998) / (5992 * 100)
        worth(0, 593109, 299600);
    }

    void worthOfNoReceiver() {
        says("NO_SUCH if there is no such receiver; BAD_VALUE if what is neither 0 nor 1");
        is(x.worth(0, 0), NO_SUCH);
        is(x.worth(0, 2), NO_SUCH);
        hireFive();
        is(x.worth(4, 0), 0);
        is(x.worth(5, 0), NO_SUCH);
        is(x.worth(5, 2), NO_SUCH);
        for (int receiver : BEYOND) {
            is(x.worth(receiver, 0), NO_SUCH);
            is(x.worth(receiver, 2), NO_SUCH);
        }
        x.dismiss(2);
        is(x.worth(3, 1), 1);
        is(x.worth(4, 1), NO_SUCH);
    }

    void worthWhat() {
        says("BAD_VALUE if what is neither 0 nor 1");
        hire(FROM_50, 0, 0);
        is(x.worth(0, 0), 0);
        is(x.worth(0, 1), 1);
        is(x.worth(0, 2), BAD_VALUE);
        for (int what : BEYOND) {
            is(x.worth(0, what), BAD_VALUE);
        }
    }

    // ---- promise 13

    void countOfThePriorAndReceivers() {
        says("0 the prior, 1 receivers");
        is(x.count(0), 30);
        is(x.count(1), 0);
        x.prior(99);
        is(x.count(0), 99);
        x.prior(1);
        is(x.count(0), 1);
        hireFive();
        is(x.count(1), 5);
        x.dismiss(0);
        is(x.count(1), 4);
    }

    void countOfPartsAndWeights() {
        says("2 parts, 3 the sum of all weights");
        is(x.count(2), 1);
        is(x.count(3), 1);
        x.prior(50);
        carriesOut("s998@47,999@48,999@49,999@51,999@52,998@53", 1);
        is(x.count(2), 6);
        is(x.count(3), 5992);
        x.prior(50);
        is(x.count(2), 1);
        is(x.count(3), 1);
    }

    void countOfWhetherItIsTheBest() {
        says("4 whether the mean value of the split is the envelope at the prior (1 or 0)");
        is(x.count(4), 1);
        splitOf(50, "s1@49,998@50,1@51");
        is(x.count(4), 1);
        hire(FROM_50, 10, 0);
        is(x.count(4), 0);
        carriesOut("s1@50", 1);
        is(x.count(4), 1);
        x.prior(49);
        is(x.count(4), 0);
        carriesOut("s1@0,49@50", 1);
        is(x.count(4), 1);
        carriesOut("s2@0,49@50,49@50", 1);
        is(x.count(4), 1);
        carriesOut("s1@1,1@50", 0);
        carriesOut("s1@1,48@50", 1);
        is(x.count(4), 0);
    }

    void countOfTheBestBelow0() {
        says("4 whether the mean value of the split is the envelope at the prior");
        hire(FROM_99, 0, -99);
        x.prior(99);
        mean(-99, 1);
        is(x.count(4), 0);
        x.refine(0, 98, 100);
        mean(-99, 2);
        is(x.count(4), 1);
        x.prior(99);
        x.refine(0, 0, 100);
        mean(-9801, 100);
        is(x.count(4), 0);
    }

    void countOfThePad() {
        says("5 the length of the pad");
        is(x.count(5), 0);
        x.put('b');
        is(x.count(5), 1);
        x.wipe();
        is(x.count(5), 0);
        x.putAll(";b".repeat(40));
        is(x.count(5), 80);
        x.put('b');
        is(x.count(5), 80);
    }

    void countOfWhatCanBeUndone() {
        says("6 how many changes can be undone");
        for (int i = 0; i <= 8; i++) {
            is(x.count(6), Math.min(6, i));
            x.prior(30);
        }
        for (int i = 5; i >= 0; i--) {
            x.undo();
            is(x.count(6), i);
        }
        x.undo();
        is(x.count(6), 0);
    }

    void countWhat() {
        says("Returns the number; BAD_VALUE if what is out of range.");
        is(x.count(6), 0);
        is(x.count(7), BAD_VALUE);
        for (int what : BEYOND) {
            is(x.count(what), BAD_VALUE);
        }
    }

    // ---- promise 14

    void envelopeAtTheEnds() {
        says("Returns the envelope at a posterior, as a fraction.");
        envelope(0, 0, 1);
        envelope(100, 0, 1);
        hire(FROM_99, 0, -99);
        envelope(0, 0, 1);
        envelope(98, 0, 1);
        envelope(99, -99, 2);
        envelope(100, -99, 1);
        x.dismiss(0);
        hire(FROM_1, 10, 0);
        envelope(0, 0, 1);
        envelope(1, 10, 1);
        envelope(100, 10, 1);
    }

    void greatestAndLeastEnvelope() {
        says("0 the number above the line, and 10000000, 1 that below it");
        for (int i = 0; i < 5; i++) {
            hire(FROM_99, 99, 99);
        }
        envelope(99, 990, 1);
        envelope(100, 990, 1);
        envelope(98, 980, 1);
        envelope(1, 10, 1);
        x.dismiss(0);
        envelope(1, 8, 1);
        fresh();
        for (int i = 0; i < 5; i++) {
            hire(FROM_1, 0, -99);
        }
        envelope(1, -99, 20);
        envelope(100, -495, 1);
        envelope(0, 0, 1);
    }

    void envelopeOutOfRange() {
        says("BAD_VALUE if posterior is not 0 to 100, or what is neither 0 nor 1");
        is(x.envelope(0, 0), 10000000);
        is(x.envelope(100, 1), 1);
        is(x.envelope(101, 0), BAD_VALUE);
        is(x.envelope(101, 1), BAD_VALUE);
        is(x.envelope(0, 2), BAD_VALUE);
        is(x.envelope(100, 2), BAD_VALUE);
        is(x.envelope(101, 2), BAD_VALUE);
        for (int wrong : BEYOND) {
            is(x.envelope(wrong, 0), BAD_VALUE);
            is(x.envelope(wrong, 1), BAD_VALUE);
            is(x.envelope(50, wrong), BAD_VALUE);
            is(x.envelope(wrong, wrong), BAD_VALUE);
        }
    }

    // ---- promise 15

    void bestOfOnePart() {
        says("(of one part: 0, 1 its posterior, 2 the weight 1, 3 the weight 0)");
        best(0, 0, 0, 1, 0);
        best(100, 100, 100, 1, 0);
        hire(FROM_50, 10, 0);
        best(50, 50, 50, 1, 0);
        hire(FROM_99, 0, -99);
        best(98, 98, 98, 1, 0);
        best(100, 100, 100, 1, 0);
        best(0, 0, 0, 1, 0);
    }

    void bestOfTwoParts() {
        says("0 its lower posterior, 1 its upper one, 2 the weight of the lower one, 3 that of the upper one");
        best(1, 0, 2, 1, 1);
        best(99, 0, 100, 1, 99);
        hire(FROM_50, 10, 0);
        best(1, 0, 50, 49, 1);
        best(49, 0, 50, 1, 49);
        best(51, 50, 52, 1, 1);
        best(99, 50, 100, 1, 49);
        hire(FROM_99, 0, -99);
        best(99, 98, 100, 1, 1);
        best(97, 50, 98, 1, 47);
    }

    void bestAboveTheGreatestGap() {
        says("the weight of the lower one, 3 that of the upper one");
        hire(FROM_99, 10, 0);
        best(1, 0, 99, 98, 1);
        best(98, 0, 99, 1, 98);
        best(33, 0, 99, 2, 1);
        best(99, 99, 99, 1, 0);
    }

    void bestOutOfRange() {
        says("BAD_VALUE if posterior is not 0 to 100, or what is out of range");
        is(x.best(0, 0), 0);
        is(x.best(100, 3), 0);
        is(x.best(101, 0), BAD_VALUE);
        is(x.best(101, 3), BAD_VALUE);
        is(x.best(0, 4), BAD_VALUE);
        is(x.best(50, 4), BAD_VALUE);
        is(x.best(100, 4), BAD_VALUE);
        is(x.best(101, 4), BAD_VALUE);
        for (int wrong : BEYOND) {
            is(x.best(wrong, 0), BAD_VALUE);
            is(x.best(50, wrong), BAD_VALUE);
            is(x.best(wrong, wrong), BAD_VALUE);
        }
    }

    // ---- promise 16

    void mostGainedAt1AndAt99() {
        says("Finds the prior, 1 to 99");
        x.hire(1, 98, 50, 0);
        mostGained(1, 25, 1);
        x.dismiss(0);
        hire(FROM_99, 0, -99);
        mostGained(99, 99, 2);
        x.dismiss(0);
        hire(FROM_99, 99, 99);
        mostGained(98, 196, 1);
    }

    void mostGainedOfNothing() {
        says("at which the envelope is the most above the value of the sender, of several the lowest one");
        mostGained(1, 0, 1);
        hire(FROM_1, 99, 99);
        mostGained(1, 0, 1);
        x.dismiss(0);
        hire(FROM_50, 0, 0);
        mostGained(1, 0, 1);
    }

    void mostGainedOfSeveral() {
        says("of several the lowest one");
        hire(FROM_20, 20, 0);
        hire(FROM_40, 20, 0);
        mostGained(19, 19, 1);
        hire(FROM_60, 20, 0);
        hire(FROM_80, 20, 0);
        mostGained(19, 19, 1);
        x.dismiss(0);
        mostGained(39, 117, 4);
    }

    void mostGainedByALittle() {
        says("the most above the value of the sender");
        hire(FROM_20, 20, 0);
        // 39 * 41 / 40 - 20, that is above 19
        hire(FROM_40, 21, 0);
        mostGained(39, 799, 40);
        x.dismiss(1);
        hire(FROM_40, 19, 0);
        mostGained(19, 19, 1);
    }

    void mostGainedWhat() {
        says("0 the prior, 1, 2 the difference, above and below the line of a fraction");
        is(x.mostGained(0), 1);
        is(x.mostGained(2), 1);
        is(x.mostGained(3), BAD_VALUE);
        for (int what : BEYOND) {
            is(x.mostGained(what), BAD_VALUE);
        }
    }
}
