/** The boundary cases that the terms of the document name, a sentence a test; those of the texts are in TextEdgeTest. */
public final class TermsEdgeTest extends Asker {
    public static void main(String[] args) throws Exception {
        new TermsEdgeTest().runAll();
    }

    // ---- what it is

    void allOf512Calls() {
        says("An object is used for at most 512 calls after it has been made");
        while (x.calls() < Used.MOST_CALLS - 10) {
            is(x.prior(1 + x.calls() % 99), x.calls() == 1 ? 30 : 1 + (x.calls() - 2) % 99);
        }
        int last = 1 + (x.calls() - 1) % 99;
        is(x.save(1), last);
        is(x.count(6), 6);
        for (int left = 5; left >= 0; left--) {
            is(x.undo(), left);
        }
        is(x.count(0), last - 6);
        is(x.restore(1), last);
        is(x.calls(), Used.MOST_CALLS);
    }

    // ---- conventions

    void errorCodes() {
        says("A method that fails returns one of the error codes NO_SUCH (-1), BAD_VALUE (-2), BAD_TEXT (-3), TOO_MANY (-4) and "
                + "NOT_POSSIBLE (-5)");
        due.is("NO_SUCH", SplitBeliefs.NO_SUCH, -1);
        due.is("BAD_VALUE", SplitBeliefs.BAD_VALUE, -2);
        due.is("BAD_TEXT", SplitBeliefs.BAD_TEXT, -3);
        due.is("TOO_MANY", SplitBeliefs.TOO_MANY, -4);
        due.is("NOT_POSSIBLE", SplitBeliefs.NOT_POSSIBLE, -5);
        is(x.dismiss(0), -1);
        is(x.prior(0), -2);
        is(x.carryOut(), -3);
        is(x.undo(), -5);
        hireFive();
        is(x.hire(1, 1, 1, 1), -4);
    }

    void errorsInOrder() {
        says("it names its errors in the order in which they are checked, and the first one that applies is returned");
        is(x.receiver(0, 5), NO_SUCH);
        is(x.part(1, 4), NO_SUCH);
        is(x.worth(0, 2), NO_SUCH);
        is(x.refine(1, -1, 101), NO_SUCH);
        is(x.restore(2), BAD_VALUE);
        hireFive();
        is(x.hire(0, 0, -1, 100), BAD_VALUE);
        splitOf(50, "s1@0,500@49,500@51,1@100");
        is(x.refine(1, -1, 51), BAD_VALUE);
        is(x.refine(1, 48, 51), TOO_MANY);
        is(x.join(0), NOT_POSSIBLE);
        is(x.join(1), TOO_MANY);
        x.putAll("b".repeat(80));
        is(x.put(32), BAD_VALUE);
        is(x.put(33), TOO_MANY);
    }

    void noneIsNoError() {
        says("NONE (-6) is not an error; it is returned only if no error applies");
        due.is("NONE", SplitBeliefs.NONE, -6);
        is(x.fault(), 0);
        x.put('b');
        is(x.fault(), -6);
        is(x.carryOut(), 1);
        is(x.fault(), 0);
    }

    void numberedFrom0() {
        says("Everything is numbered from 0");
        is(x.hire(1, 2, 3, 4), 0);
        is(x.receiver(0, 0), 1);
        is(x.receiver(1, 0), NO_SUCH);
        is(x.part(0, 1), 30);
        is(x.part(1, 1), NO_SUCH);
        is(x.worth(0, 1), 1);
        is(x.save(0), 30);
        is(x.save(1), 30);
        is(x.refine(0, 0, 100), 2);
        is(x.join(0), 1);
        is(x.dismiss(0), 0);
    }

    void setsAreMasks() {
        says("Sets of receivers are bit masks");
        is(x.part(0, 2), 0);
        hireFive();
        int[][] due = {{19, 0}, {20, 1}, {39, 1}, {40, 3}, {49, 3}, {50, 7}, {59, 7}, {60, 15}, {79, 15}, {80, 31}, {99, 31}};
        for (int[] one : due) {
            x.prior(one[0]);
            is(x.part(0, 2), one[1]);
        }
        fresh();
        for (int i = 0; i < 4; i++) {
            hire(FROM_99, 0, 0);
        }
        hire(FROM_1, 0, 0);
        is(x.part(0, 2), 16);
        x.dismiss(0);
        is(x.part(0, 2), 8);
    }

    void fractionsInLowestTerms() {
        says("Fractions are told in lowest terms, the number below the line above 0");
        hire(FROM_50, 7, 0);
        x.refine(0, 0, 100);
        mean(21, 10);
        hire(FROM_50, 3, 0);
        mean(3, 1);
        envelope(30, 6, 1);
        envelope(5, 1, 1);
        mostGained(49, 49, 5);
        worth(0, 3, 10);
        hire(FROM_50, 0, -6);
        mean(6, 5);
    }

    void aFractionOf0() {
        says("Fractions are told in lowest terms, the number below the line above 0.");
        x.refine(0, 0, 100);
        mean(0, 1);
        envelope(7, 0, 1);
        mostGained(1, 0, 1);
        hire(FROM_99, 0, 0);
        x.prior(98);
        x.refine(0, 97, 99);
        worth(0, 0, 1);
    }

    void aFractionBelow0() {
        says("the number below the line above 0");
        hire(FROM_50, 0, -20);
        x.refine(0, 0, 100);
        mean(-6, 1);
        x.prior(50);
        x.refine(0, 0, 60);
        mean(-50, 3);
        x.dismiss(0);
        hire(FROM_99, 0, -99);
        envelope(99, -99, 2);
        envelope(100, -99, 1);
    }

    // ---- states, receivers

    void priorOf30AtFirst() {
        says("1 to 99 hundredths (30 at first)");
        is(x.count(0), 30);
        is(x.prior(0), BAD_VALUE);
        is(x.prior(100), BAD_VALUE);
        is(x.prior(1), 30);
        is(x.prior(99), 1);
        is(x.count(0), 99);
    }

    void upTo5Receivers() {
        says("There are up to 5 receivers");
        is(x.count(1), 0);
        for (int i = 0; i < 5; i++) {
            is(x.hire(1, 1, 0, 0), i);
            is(x.count(1), i + 1);
        }
        is(x.hire(1, 1, 0, 0), TOO_MANY);
        is(x.count(1), 5);
    }

    void thoseBehindMoveUp() {
        says("numbered in the order in which they came (when one leaves, those behind move up)");
        for (int i = 0; i < 5; i++) {
            is(x.hire(10 + i, 20 + i, 30 + i, 40 + i), i);
        }
        int[] stay = {10, 11, 12, 13, 14};
        for (int left = 4; left >= 0; left--) {
            int gone = left / 2;
            is(x.dismiss(gone), left);
            System.arraycopy(stay, gone + 1, stay, gone, left - gone);
            for (int i = 0; i < left; i++) {
                receiverIs(i, stay[i], stay[i] + 10, stay[i] + 20, stay[i] + 130);
            }
            is(x.receiver(left, 0), NO_SUCH);
        }
    }

    void theFirstAndTheLastLeave() {
        says("(when one leaves, those behind move up)");
        for (int i = 0; i < 3; i++) {
            is(x.hire(10 + i, 20 + i, 30 + i, 40 + i), i);
        }
        is(x.dismiss(0), 2);
        receiverIs(0, 11, 21, 31, 141);
        receiverIs(1, 12, 22, 32, 142);
        is(x.dismiss(1), 1);
        receiverIs(0, 11, 21, 31, 141);
        is(x.hire(1, 2, 3, 4), 1);
        receiverIs(1, 1, 2, 3, 104);
    }

    void lossAndGainFrom1To99() {
        says("it has a loss (1 to 99) if it acts in the state 0, and a gain (1 to 99) if it acts in the state 1");
        is(x.hire(0, 1, 0, 0), BAD_VALUE);
        is(x.hire(1, 0, 0, 0), BAD_VALUE);
        is(x.hire(100, 99, 0, 0), BAD_VALUE);
        is(x.hire(99, 100, 0, 0), BAD_VALUE);
        is(x.hire(1, 99, 0, 0), 0);
        is(x.hire(99, 1, 0, 0), 1);
        receiverIs(0, 1, 99);
        receiverIs(1, 99, 1);
        x.prior(99);
        x.refine(0, 0, 100);
        worth(0, 9801, 100);
        worth(1, 99, 100);
    }

    void actsAtTheBoundary() {
        says("it acts if x * gain is at least (100 - x) * loss");
        int[][] due = {{1, 99, 1}, {99, 1, 99}, {1, 1, 50}, {99, 99, 50}, {1, 4, 20}, {3, 1, 75}, {1, 2, 34}, {2, 1, 67}, {1, 98, 2},
            {98, 1, 99}, {49, 50, 50}, {50, 49, 51}};
        for (int[] one : due) {
            fresh();
            x.hire(one[0], one[1], 1, 0);
            is(x.value(one[2] - 1), 1000);
            is(x.value(one[2]), 1001);
            x.prior(Math.max(1, one[2] - 1));
            is(x.part(0, 2), one[2] == 1 ? 1 : 0);
            x.prior(one[2]);
            is(x.part(0, 2), 1);
        }
    }

    void nobodyActsAt0AndAllActAt100() {
        says("it acts if x * gain is at least (100 - x) * loss.");
        hire(FROM_1, 3, 0);
        hire(FROM_99, 5, 0);
        is(x.value(0), 1000);
        is(x.value(100), 1008);
        x.refine(0, 0, 100);
        is(x.part(0, 2), 0);
        is(x.part(1, 2), 3);
    }

    void worthIfItActs() {
        says("The worth of the receiver at x is x * gain less (100 - x) * loss, if it acts, otherwise 0");
        x.hire(1, 2, 0, 0);
        x.prior(33);
        worth(0, 0, 1);
        x.prior(34);
        worth(0, 1, 50);
        x.prior(50);
        x.refine(0, 33, 67);
        worth(0, 101, 200);
        x.hire(1, 1, 0, 0);
        x.prior(49);
        worth(1, 0, 1);
        x.prior(50);
        worth(1, 0, 1);
        x.prior(51);
        worth(1, 1, 50);
    }

    void payIfItActs() {
        says("For each receiver the sender has a pay (0 to 99) if it acts");
        hire(FROM_50, 0, 0);
        is(x.value(100), 1000);
        hire(FROM_50, 99, 0);
        is(x.value(49), 1000);
        is(x.value(50), 1099);
        hire(FROM_80, 1, 0);
        is(x.value(79), 1099);
        is(x.value(80), 1100);
    }

    void paysOfAllWhoAct() {
        says("The value of the sender at x is the sum of the pays of all receivers who act");
        int[] pays = {1, 2, 4, 8, 16};
        int[][] acting = {FROM_20, FROM_40, FROM_50, FROM_60, FROM_80};
        for (int i = 4; i >= 0; i--) {
            hire(acting[i], pays[i], 0);
        }
        int[][] due = {{0, 0}, {19, 0}, {20, 1}, {39, 1}, {40, 3}, {49, 3}, {50, 7}, {59, 7}, {60, 15}, {79, 15}, {80, 31}, {100, 31}};
        for (int[] one : due) {
            is(x.value(one[0]), 1000 + one[1]);
        }
    }

    void bonusIfAllAct() {
        says("a bonus (-99 to 99) that comes besides if all receivers act");
        hireFive();
        is(x.value(19), 1000);
        is(x.value(20), 1011);
        is(x.value(79), 1050);
        is(x.value(80), 1068);
        x.dismiss(4);
        is(x.value(59), 1036);
        is(x.value(60), 1048);
        x.dismiss(0);
        is(x.value(59), 1025);
        is(x.value(60), 1036);
    }

    void bonusOfOneReceiver() {
        says("and, if all act (and there is one), the sum of all bonuses");
        hire(FROM_50, 3, 7);
        is(x.value(49), 1000);
        is(x.value(50), 1010);
        x.dismiss(0);
        hire(FROM_50, 0, -99);
        is(x.value(49), 1000);
        is(x.value(50), 901);
        x.dismiss(0);
        hire(FROM_50, 99, 99);
        is(x.value(50), 1198);
    }

    void noReceiversNoBonus() {
        says("(and there is one)");
        is(x.value(0), 1000);
        is(x.value(100), 1000);
        hire(FROM_50, 3, 7);
        x.dismiss(0);
        is(x.value(0), 1000);
        is(x.value(50), 1000);
        is(x.value(100), 1000);
    }

    void allBonusesAreAdded() {
        says("for each receiver the bonus is told once, and all bonuses are added");
        hire(FROM_50, 0, 99);
        hire(FROM_50, 0, -99);
        is(x.value(50), 1000);
        hire(FROM_50, 0, 99);
        hire(FROM_50, 0, 99);
        hire(FROM_50, 0, 99);
        is(x.value(50), 1297);
        is(x.value(49), 1000);
    }

    // ---- splits

    void upTo6Parts() {
        says("A split is up to 6 parts");
        splitOf(50, "s1@20,1@30,1@40,1@60,1@70,1@80");
        parts(1, 20, 1, 30, 1, 40, 1, 60, 1, 70, 1, 80);
        is(x.refine(0, 19, 21), TOO_MANY);
        parts(1, 20, 1, 30, 1, 40, 1, 60, 1, 70, 1, 80);
        is(x.refine(0, 20, 20), 6);
        is(x.refine(0, 10, 30), 6);
        parts(1, 10, 3, 30, 2, 40, 2, 60, 2, 70, 2, 80);
    }

    void weightsFrom1To999() {
        says("each a weight (1 to 999)");
        splitOf(50, "s1@0,999@50,1@100");
        parts(1, 0, 999, 50, 1, 100);
        carriesOut("s1@50,0@50", 0);
        carriesOut("s0@50,1@50", 0);
        carriesOut("s1@40,0@0,1@60", 0);
        parts(1, 0, 999, 50, 1, 100);
    }

    void posteriorsFrom0To100() {
        says("and a posterior (0 to 100)");
        splitOf(50, "s1@0,50@51");
        parts(1, 0, 50, 51);
        carriesOut("s50@49,1@100", 1);
        parts(50, 49, 1, 100);
        carriesOut("s51@49,1@101", 0);
        carriesOut("s949@49,1@999", 0);
        parts(50, 49, 1, 100);
    }

    void averagesToThePrior() {
        says("that average to the prior: the sum of weights times posteriors is the sum of weights times P");
        x.prior(50);
        String[] wrong = {"s1@49", "s1@51", "s1@49,1@52", "s1@48,1@51", "s2@49,1@51", "s1@49,2@51", "s999@50,1@51", "s999@50,1@49"};
        for (String text : wrong) {
            carriesOut(text, 0);
            parts(1, 50);
        }
        carriesOut("s1@49,1@51", 1);
        parts(1, 49, 1, 51);
        carriesOut("s2@49,1@52", 1);
        parts(2, 49, 1, 52);
        carriesOut("s998@50,1@49,1@51", 1);
        parts(1, 49, 998, 50, 1, 51);
    }

    void onePartAtFirst() {
        says("At first it is one part: the weight 1, the posterior P");
        parts(1, 30);
    }

    void risingPosteriors() {
        says("The parts are kept by rising posteriors");
        splitOf(50, "s1@100,2@60,3@50,2@40,1@0");
        parts(1, 0, 2, 40, 3, 50, 2, 60, 1, 100);
        is(x.refine(2, 10, 90), 6);
        parts(2, 0, 3, 10, 4, 40, 4, 60, 3, 90, 2, 100);
    }

    void equalPosteriorsAreOne() {
        says("parts with the same posterior are one, with their weights together");
        splitOf(50, "s2@60,1@40,1@60,2@40,1@60,1@40");
        parts(1, 40, 1, 60);
        carriesOut("s1@50,2@50,3@50,4@50,5@50,6@50", 1);
        parts(1, 50);
        carriesOut("s2@40,1@60,3@50,1@60", 1);
        parts(2, 40, 3, 50, 2, 60);
    }

    void greatestCommonDivisor() {
        says("all weights are divided by their greatest common divisor");
        splitOf(50, "s999@0,999@100");
        parts(1, 0, 1, 100);
        carriesOut("s998@0,4@50,998@100", 1);
        parts(499, 0, 2, 50, 499, 100);
        carriesOut("s6@0,15@60,10@65", 1);
        parts(6, 0, 15, 60, 10, 65);
        carriesOut("s12@0,30@60,20@65", 1);
        parts(6, 0, 15, 60, 10, 65);
        carriesOut("s999@50", 1);
        parts(1, 50);
    }

    void noWeightAbove999Then() {
        says("No weight may be above 999 then.");
        splitOf(50, "s998@50,1@50,1@49,1@51");
        parts(1, 49, 999, 50, 1, 51);
        x.prior(50);
        carriesOut("s999@50,1@50,1@49,1@51", 0);
        parts(1, 50);
        carriesOut("s999@50,999@50,2@49,2@51", 1);
        parts(1, 49, 999, 50, 1, 51);
        carriesOut("s999@50,999@50,1@50,1@49,1@51", 0);
        carriesOut("s999@50,999@50,2@50,2@49,2@51", 0);
        parts(1, 49, 999, 50, 1, 51);
    }

    void meanByWeights() {
        says("the sum over all parts of their weights times it, divided by the sum of all weights");
        hire(FROM_50, 99, 0);
        x.prior(50);
        mean(99, 1);
        carriesOut("s1@0,999@50,1@100", 1);
        mean(9000, 91);
        carriesOut("s1@20,1@30,1@40,1@60,1@70,1@80", 1);
        mean(99, 2);
        worth(0, 1, 5);
    }

    void envelopeInsteadOfThePrior() {
        says("The envelope at x is the greatest mean value that a split of x, instead of P, into one or two parts");
        hire(FROM_50, 10, 0);
        for (int prior : new int[] {1, 49, 50, 99}) {
            x.prior(prior);
            x.refine(0, 0, 100);
            envelope(0, 0, 1);
            envelope(1, 1, 5);
            envelope(49, 49, 5);
            envelope(50, 10, 1);
            envelope(51, 10, 1);
            envelope(100, 10, 1);
        }
    }

    void envelopeOfOnePart() {
        says("into one or two parts");
        hire(FROM_20, 20, 0);
        hire(FROM_60, 10, 0);
        envelope(20, 20, 1);
        envelope(60, 30, 1);
        envelope(19, 19, 1);
        envelope(21, 81, 4);
        envelope(59, 119, 4);
        envelope(61, 30, 1);
        envelope(0, 0, 1);
        envelope(100, 30, 1);
    }

    void envelopeByTheLeastDifference() {
        says("the greatest mean value that a split of x, instead of P, into one or two parts");
        // 2 at 33 is above the line from 0 at 0 to 3 at 50 by a fiftieth.
        x.hire(33, 67, 2, 0);
        hire(FROM_50, 1, 0);
        envelope(33, 2, 1);
        envelope(32, 64, 33);
        envelope(34, 35, 17);
        best(33, 33, 33, 1, 0);
        best(34, 33, 50, 16, 1);
        fresh();
        // 31 at 33 is below the line from 0 at 0 to 47 at 50 by a fiftieth.
        x.hire(33, 67, 31, 0);
        hire(FROM_50, 16, 0);
        envelope(33, 1551, 50);
        best(33, 0, 50, 17, 33);
        best(34, 0, 50, 8, 17);
    }

    void envelopeBehindItsFirstCorner() {
        says("(with any weights, and posteriors that are whole hundredths) has");
        hire(FROM_20, 40, 0);
        hire(FROM_40, 5, 0);
        hire(FROM_60, 15, 0);
        envelope(40, 50, 1);
        best(30, 20, 60, 3, 1);
        best(40, 20, 60, 1, 1);
        x.dismiss(1);
        x.dismiss(1);
        hire(FROM_40, 11, 0);
        hire(FROM_60, 10, 0);
        envelope(40, 51, 1);
        best(30, 20, 40, 1, 1);
        best(40, 40, 40, 1, 0);
        best(50, 40, 60, 1, 1);
    }

    void wholeHundredths() {
        says("posteriors that are whole hundredths");
        x.hire(1, 2, 34, 0);
        envelope(17, 17, 1);
        envelope(33, 33, 1);
        envelope(34, 34, 1);
        best(33, 0, 34, 1, 33);
        best(34, 34, 34, 1, 0);
    }

    void leastLowerPosterior() {
        says("the one with this mean value that has the least lower posterior");
        best(1, 0, 2, 1, 1);
        best(99, 0, 100, 1, 99);
        hire(FROM_20, 20, 0);
        hire(FROM_40, 20, 0);
        best(30, 0, 40, 1, 3);
        best(20, 0, 40, 1, 1);
        best(39, 0, 40, 1, 39);
        best(41, 40, 42, 1, 1);
        best(99, 40, 100, 1, 59);
        fresh();
        hire(FROM_20, 40, 0);
        hire(FROM_40, 10, 0);
        hire(FROM_60, 10, 0);
        best(40, 20, 60, 1, 1);
        best(50, 20, 60, 1, 3);
    }

    void leastUpperPosterior() {
        says("of several the one with the least upper one");
        best(50, 0, 51, 1, 50);
        hire(FROM_20, 20, 0);
        hire(FROM_40, 20, 0);
        best(10, 0, 20, 1, 1);
        best(19, 0, 20, 1, 19);
        best(20, 0, 40, 1, 1);
        best(98, 40, 99, 1, 58);
        fresh();
        hire(FROM_20, 40, 0);
        hire(FROM_40, 10, 0);
        hire(FROM_60, 10, 0);
        best(30, 20, 40, 1, 1);
        best(39, 20, 40, 1, 19);
        best(40, 20, 60, 1, 1);
        best(41, 20, 60, 19, 21);
    }

    void bestOfOnePart() {
        says("of one part both are x");
        best(0, 0, 0, 1, 0);
        best(100, 100, 100, 1, 0);
        hire(FROM_20, 20, 0);
        hire(FROM_60, 10, 0);
        best(0, 0, 0, 1, 0);
        best(20, 20, 20, 1, 0);
        best(60, 60, 60, 1, 0);
        best(100, 100, 100, 1, 0);
    }

    void bestOfTwoParts() {
        says("of two parts the lower one is below x, the upper one above it");
        hire(FROM_20, 20, 0);
        hire(FROM_60, 10, 0);
        best(19, 0, 20, 1, 19);
        best(21, 20, 60, 39, 1);
        best(59, 20, 60, 1, 39);
        best(61, 60, 62, 1, 1);
    }

    void bestWeightsInLowestTerms() {
        says("with weights in lowest terms");
        hire(FROM_20, 20, 0);
        hire(FROM_60, 10, 0);
        best(30, 20, 60, 3, 1);
        best(33, 20, 60, 27, 13);
        best(36, 20, 60, 3, 2);
        best(40, 20, 60, 1, 1);
        best(44, 20, 60, 2, 3);
        best(10, 0, 20, 1, 1);
        best(80, 60, 81, 1, 20);
    }
}
