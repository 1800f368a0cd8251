/** For each promise of the document: ordinary inputs, the edges that it names, and wrong inputs. */
public final class PromiseTest {
    private static final int LEAST = Integer.MIN_VALUE;
    private static final int MOST = Integer.MAX_VALUE;

    private final Due due = new Due();
    private Used x;

    public static void main(String[] args) {
        PromiseTest test = new PromiseTest();
        test.newObject();
        test.prior();
        test.hire();
        test.dismiss();
        test.refine();
        test.refineBounds();
        test.join();
        test.joinBounds();
        test.adopt();
        test.receiver();
        test.part();
        test.value();
        test.mean();
        test.worth();
        test.count();
        test.envelope();
        test.best();
        test.mostGained();
        test.put();
        test.wipe();
        test.fault();
        test.carryOut();
        test.carryOutErrors();
        test.carryOutSplits();
        test.undo();
        test.undoEachChange();
        test.save();
        test.restore();
        test.due.end();
    }

    private void begin(String promise) {
        due.about(promise);
        x = new Used();
    }

    /** The split, told by weights and posteriors in turn. */
    private void split(int... told) {
        due.is("count(2)", x.count(2), told.length / 2);
        int sum = 0;
        for (int i = 0; i < told.length; i += 2) {
            due.is("part(" + i / 2 + ", 0)", x.part(i / 2, 0), told[i]);
            due.is("part(" + i / 2 + ", 1)", x.part(i / 2, 1), told[i + 1]);
            sum += told[i];
        }
        due.is("part(" + told.length / 2 + ", 0)", x.part(told.length / 2, 0), -1);
        due.is("count(3)", x.count(3), sum);
    }

    private void becomes(int prior, String text) {
        due.is("prior", x.prior(prior) > 0 ? 1 : 0, 1);
        carriesOut(text, 1);
    }

    private void carriesOut(String text, int orders) {
        due.is("put " + text, x.putAll(text), text.length());
        due.is("carryOut() of " + text, x.carryOut(), orders);
    }

    private void faultOf(String text, int want) {
        x = new Used();
        x.putAll(text);
        due.is("fault() of " + text, x.fault(), want);
        due.is("count(5) of " + text, x.count(5), text.length());
    }

    private void newObject() {
        begin("promise 1, a new object");
        due.is("count(0)", x.count(0), 30);
        due.is("count(1)", x.count(1), 0);
        split(1, 30);
        due.is("count(4)", x.count(4), 1);
        due.is("count(5)", x.count(5), 0);
        due.is("count(6)", x.count(6), 0);
        due.is("undo()", x.undo(), -5);
        due.is("restore(0)", x.restore(0), -5);
        due.is("restore(1)", x.restore(1), -5);
        due.is("fault()", x.fault(), 0);
        due.is("value(100)", x.value(100), 1000);
        Used y = new Used();
        x.prior(77);
        x.hire(1, 2, 3, 4);
        due.is("count(0) of another one", y.count(0), 30);
        due.is("count(1) of another one", y.count(1), 0);
    }

    private void prior() {
        begin("promise 2, prior");
        x.refine(0, 0, 100);
        due.is("prior(1)", x.prior(1), 30);
        split(1, 1);
        due.is("prior(99)", x.prior(99), 1);
        x.refine(0, 98, 100);
        split(1, 98, 1, 100);
        for (int wrong : new int[] {0, 100, -1, 101, LEAST, MOST}) {
            due.is("prior(" + wrong + ")", x.prior(wrong), -2);
        }
        due.is("count(0)", x.count(0), 99);
        split(1, 98, 1, 100);
        due.is("count(6)", x.count(6), 4);
        due.is("prior(99) again", x.prior(99), 99);
        split(1, 99);
        due.is("count(6)", x.count(6), 5);
    }

    private void hire() {
        begin("promise 3, hire");
        due.is("hire(1, 1, 0, -99)", x.hire(1, 1, 0, -99), 0);
        due.is("hire(99, 99, 99, 99)", x.hire(99, 99, 99, 99), 1);
        due.is("hire(7, 8, 9, -10)", x.hire(7, 8, 9, -10), 2);
        int[][] wrong = {{0, 1, 1, 1}, {100, 1, 1, 1}, {1, 0, 1, 1}, {1, 100, 1, 1}, {1, 1, -1, 1}, {1, 1, 100, 1},
            {1, 1, 1, -100}, {1, 1, 1, 100}, {LEAST, 1, 1, 1}, {1, MOST, 1, 1}, {1, 1, MOST, 1}, {1, 1, 1, LEAST}};
        for (int[] told : wrong) {
            due.is("wrong hire", x.hire(told[0], told[1], told[2], told[3]), -2);
        }
        due.is("count(1)", x.count(1), 3);
        due.is("count(6)", x.count(6), 3);
        due.is("hire 3", x.hire(1, 1, 0, 0), 3);
        due.is("hire 4", x.hire(1, 1, 0, 0), 4);
        due.is("hire a sixth", x.hire(1, 1, 0, 0), -4);
        due.is("hire a sixth, out of range", x.hire(1, 1, 100, 0), -2);
        due.is("count(1)", x.count(1), 5);
        due.is("count(6)", x.count(6), 5);
        int[][] want = {{1, 1, 0, 1}, {99, 99, 99, 199}, {7, 8, 9, 90}};
        for (int receiver = 0; receiver < want.length; receiver++) {
            for (int what = 0; what < 4; what++) {
                due.is("receiver(" + receiver + ", " + what + ")", x.receiver(receiver, what), want[receiver][what]);
            }
        }
    }

    private void dismiss() {
        begin("promise 4, dismiss");
        due.is("dismiss(0) of none", x.dismiss(0), -1);
        for (int i = 1; i <= 5; i++) {
            x.hire(i, 10 + i, 20 + i, 30 + i);
        }
        for (int wrong : new int[] {-1, 5, LEAST, MOST}) {
            due.is("dismiss(" + wrong + ")", x.dismiss(wrong), -1);
        }
        due.is("count(6)", x.count(6), 5);
        due.is("dismiss(1)", x.dismiss(1), 4);
        int[] left = {1, 3, 4, 5};
        for (int i = 0; i < 4; i++) {
            due.is("loss of " + i, x.receiver(i, 0), left[i]);
            due.is("gain of " + i, x.receiver(i, 1), 10 + left[i]);
            due.is("pay of " + i, x.receiver(i, 2), 20 + left[i]);
            due.is("bonus of " + i, x.receiver(i, 3), 130 + left[i]);
        }
        due.is("dismiss(4)", x.dismiss(4), -1);
        due.is("dismiss(3)", x.dismiss(3), 3);
        due.is("dismiss(0)", x.dismiss(0), 2);
        due.is("loss of 0", x.receiver(0, 0), 3);
        due.is("hire", x.hire(9, 9, 9, 9), 2);
        due.is("dismiss(2)", x.dismiss(2), 2);
        due.is("dismiss(0)", x.dismiss(0), 1);
        due.is("dismiss(0)", x.dismiss(0), 0);
        due.is("count(1)", x.count(1), 0);
    }

    private void refine() {
        begin("promise 5, refine");
        due.is("refine(0, 0, 100)", x.refine(0, 0, 100), 2);
        split(7, 0, 3, 100);
        due.is("both are its own", x.refine(0, 0, 0), 2);
        due.is("one has no weight", x.refine(0, 0, 50), 2);
        due.is("one has no weight", x.refine(1, 50, 100), 2);
        split(7, 0, 3, 100);
        due.is("count(6)", x.count(6), 4);
        x.prior(50);
        due.is("refine(0, 20, 60)", x.refine(0, 20, 60), 2);
        split(1, 20, 3, 60);
        due.is("refine(1, 20, 80): equal posteriors are one", x.refine(1, 20, 80), 2);
        split(1, 20, 1, 80);
        due.is("refine(0, 0, 80)", x.refine(0, 0, 80), 2);
        split(3, 0, 5, 80);
        due.is("refine(1, 10, 90)", x.refine(1, 10, 90), 3);
        split(24, 0, 5, 10, 35, 90);
        due.is("refine(1, 0, 90): weights are divided", x.refine(1, 0, 90), 2);
        split(4, 0, 5, 90);
        due.is("refine(1, 45, 92): beyond no other part", x.refine(1, 45, 92), 3);
        split(188, 0, 10, 45, 225, 92);
        due.is("refine(1, 0, 100): beyond another part", x.refine(1, 0, 100), 3);
        split(43, 0, 50, 92, 1, 100);
    }

    private void refineBounds() {
        begin("promise 5, refine, bounds");
        due.is("no such part", x.refine(1, 0, 100), -1);
        due.is("no such part", x.refine(-1, 0, 100), -1);
        due.is("no such part, out of range", x.refine(MOST, -1, 101), -1);
        due.is("no such part, out of range", x.refine(LEAST, -1, 101), -1);
        int[][] wrong = {{-1, 100}, {31, 100}, {0, 29}, {0, 101}, {LEAST, MOST}, {MOST, LEAST}, {31, 31}, {29, 29}};
        for (int[] told : wrong) {
            due.is("refine(0, " + told[0] + ", " + told[1] + ")", x.refine(0, told[0], told[1]), -2);
        }
        split(1, 30);
        due.is("count(6)", x.count(6), 0);
        becomes(50, "s1@20,1@30,1@40,1@60,1@70,1@80");
        due.is("seven parts", x.refine(2, 39, 41), -4);
        due.is("seven parts, out of range", x.refine(2, 39, 101), -2);
        due.is("one that is there", x.refine(2, 30, 50), 6);
        split(2, 20, 3, 30, 1, 50, 2, 60, 2, 70, 2, 80);
        due.is("two that are there", x.refine(2, 20, 80), 5);
        split(5, 20, 6, 30, 4, 60, 4, 70, 5, 80);
        due.is("six parts", x.refine(1, 29, 31), 6);
        becomes(50, "s1@0,1@30,1@40,1@60,1@70,1@100");
        due.is("seven parts", x.refine(2, 39, 41), -4);
        split(1, 0, 1, 30, 1, 40, 1, 60, 1, 70, 1, 100);
        becomes(50, "s999@0,999@100");
        split(1, 0, 1, 100);
        becomes(50, "s998@0,4@50,998@100");
        split(499, 0, 2, 50, 499, 100);
        due.is("four parts", x.refine(1, 25, 75), 4);
        split(499, 0, 1, 25, 1, 75, 499, 100);
        due.is("998 at most, five parts", x.refine(1, 24, 26), 5);
        split(998, 0, 1, 24, 1, 26, 2, 75, 998, 100);
        due.is("weights would be 1996", x.refine(1, 23, 25), -4);
        due.is("weights would be 2994", x.refine(3, 74, 77), -4);
        split(998, 0, 1, 24, 1, 26, 2, 75, 998, 100);
    }

    private void join() {
        begin("promise 6, join");
        due.is("join(0) of one", x.join(0), -1);
        x.prior(50);
        x.refine(0, 49, 51);
        due.is("join(0)", x.join(0), 1);
        split(1, 50);
        becomes(50, "s1@10,3@30,4@70,1@90,1@30");
        split(1, 10, 4, 30, 4, 70, 1, 90);
        due.is("join(1)", x.join(1), 3);
        split(1, 10, 8, 50, 1, 90);
        due.is("10 and 8 times 50 by 9 is not whole", x.join(0), -5);
        due.is("join(2)", x.join(2), -1);
        due.is("join(3)", x.join(3), -1);
        for (int wrong : new int[] {-1, LEAST, MOST, MOST - 1}) {
            due.is("join(" + wrong + ")", x.join(wrong), -1);
        }
        split(1, 10, 8, 50, 1, 90);
        due.is("count(6)", x.count(6), 6);
        becomes(50, "s1@10,3@20,5@36,1@90,5@82");
        split(1, 10, 3, 20, 5, 36, 5, 82, 1, 90);
        due.is("join(0) is not whole", x.join(0), -5);
        due.is("join(3) is not whole", x.join(3), -5);
        due.is("join(2) at 59", x.join(2), 4);
        split(1, 10, 3, 20, 10, 59, 1, 90);
        x.save(0);
        x.prior(40);
        x.refine(0, 39, 41);
        x.restore(0);
        due.is("join(0) is not whole", x.join(0), -5);
        due.is("refine(2, 29, 89) of what was restored", x.refine(2, 29, 89), 5);
        split(1, 10, 3, 20, 5, 29, 5, 89, 1, 90);
        x.prior(40);
        x.refine(0, 39, 41);
        x.undo();
        x.undo();
        due.is("join(1) is not whole", x.join(1), -5);
        due.is("join(2) of what was undone", x.join(2), 4);
        split(1, 10, 3, 20, 10, 59, 1, 90);
    }

    private void joinBounds() {
        begin("promise 6, join, bounds");
        becomes(50, "s601@40,601@50,16@51,999@56");
        split(601, 40, 601, 50, 16, 51, 999, 56);
        due.is("a weight would be 1202", x.join(0), -4);
        due.is("join(1) is not whole", x.join(1), -5);
        due.is("a weight would be 1015, but it is not whole", x.join(2), -5);
        due.is("join(3)", x.join(3), -1);
        split(601, 40, 601, 50, 16, 51, 999, 56);
        due.is("count(6)", x.count(6), 2);
        becomes(50, "s334@45,668@48,3@52,300@60");
        split(334, 45, 668, 48, 3, 52, 300, 60);
        due.is("1002 is divided by 3", x.join(0), 3);
        split(334, 47, 1, 52, 100, 60);
    }

    private void adopt() {
        begin("promise 7, adopt");
        due.is("adopt() of no receivers", x.adopt(), 2);
        split(1, 0, 30, 31);
        x.hire(1, 1, 10, 0);
        due.is("adopt()", x.adopt(), 2);
        split(2, 0, 3, 50);
        due.is("count(6)", x.count(6), 3);
        due.is("adopt() again", x.adopt(), 2);
        due.is("count(6)", x.count(6), 4);
        x.prior(60);
        due.is("adopt() at 60", x.adopt(), 2);
        split(1, 50, 10, 61);
        x.prior(50);
        x.refine(0, 0, 100);
        due.is("adopt() at a corner", x.adopt(), 1);
        split(1, 50);
    }

    private void receiver() {
        begin("promise 8, receiver");
        due.is("receiver(0, 0) of none", x.receiver(0, 0), -1);
        due.is("receiver(0, 5) of none", x.receiver(0, 5), -1);
        int[][] told = {{1, 1, 50}, {30, 10, 75}, {99, 1, 99}, {1, 99, 1}, {1, 2, 34}, {2, 1, 67}, {99, 99, 50}, {1, 98, 2},
            {98, 1, 99}, {97, 3, 97}, {3, 97, 3}, {49, 50, 50}, {50, 49, 51}};
        for (int[] one : told) {
            x.hire(one[0], one[1], 44, -5);
            due.is("receiver(0, 0)", x.receiver(0, 0), one[0]);
            due.is("receiver(0, 1)", x.receiver(0, 1), one[1]);
            due.is("receiver(0, 2)", x.receiver(0, 2), 44);
            due.is("receiver(0, 3)", x.receiver(0, 3), 95);
            due.is("least of " + one[0] + ", " + one[1], x.receiver(0, 4), one[2]);
            x.dismiss(0);
        }
        x.hire(1, 1, 0, -99);
        due.is("bonus of -99", x.receiver(0, 3), 1);
        for (int wrong : new int[] {-1, 5, LEAST, MOST}) {
            due.is("receiver(0, " + wrong + ")", x.receiver(0, wrong), -2);
            due.is("receiver(" + wrong + ", 0)", x.receiver(wrong, 0), -1);
            due.is("receiver(1, " + wrong + ")", x.receiver(1, wrong), -1);
        }
    }

    /** Three who act from 50, 75 and 25 on. */
    private void hireThree() {
        x.hire(1, 1, 10, 0);
        x.hire(3, 1, 5, 20);
        x.hire(1, 3, 7, -50);
    }

    private void part() {
        begin("promise 9, part");
        due.is("part(0, 2)", x.part(0, 2), 0);
        due.is("part(0, 3)", x.part(0, 3), 1000);
        hireThree();
        becomes(50, "s4@0,2@50,4@100");
        int[][] want = {{2, 0, 0, 1000}, {1, 50, 5, 1017}, {2, 100, 7, 992}};
        for (int part = 0; part < want.length; part++) {
            for (int what = 0; what < 4; what++) {
                due.is("part(" + part + ", " + what + ")", x.part(part, what), want[part][what]);
            }
        }
        becomes(50, "s1@25,2@49,1@77");
        due.is("part(0, 2)", x.part(0, 2), 4);
        due.is("part(1, 3)", x.part(1, 3), 1007);
        due.is("part(2, 2)", x.part(2, 2), 7);
        for (int wrong : new int[] {-1, 4, LEAST, MOST}) {
            due.is("part(0, " + wrong + ")", x.part(0, wrong), -2);
            due.is("part(3, " + wrong + ")", x.part(3, wrong), -1);
            due.is("part(" + wrong + ", 0)", x.part(wrong, 0), -1);
        }
    }

    private void value() {
        begin("promise 10, value");
        due.is("value(0) of none", x.value(0), 1000);
        due.is("value(100) of none", x.value(100), 1000);
        hireThree();
        int[][] want = {{0, 1000}, {24, 1000}, {25, 1007}, {49, 1007}, {50, 1017}, {74, 1017}, {75, 992}, {100, 992}};
        for (int[] one : want) {
            due.is("value(" + one[0] + ")", x.value(one[0]), one[1]);
        }
        for (int wrong : new int[] {-1, 101, LEAST, MOST}) {
            due.is("value(" + wrong + ")", x.value(wrong), -2);
        }
        x.dismiss(1);
        due.is("value(50) of two", x.value(50), 967);
        begin("promise 10, value, its bounds");
        for (int i = 0; i < 5; i++) {
            x.hire(1, 1, 0, -99);
        }
        due.is("value(100)", x.value(100), 505);
        x.dismiss(0);
        x.hire(1, 99, 99, 99);
        due.is("value(1)", x.value(1), 1099);
        due.is("value(50)", x.value(50), 802);
        begin("promise 10, value, its bounds");
        for (int i = 0; i < 5; i++) {
            x.hire(99, 1, 99, 99);
        }
        due.is("value(98)", x.value(98), 1000);
        due.is("value(99)", x.value(99), 1990);
    }

    private void mean() {
        begin("promise 11, mean");
        meanIs(0, 1);
        x.refine(0, 0, 100);
        meanIs(0, 1);
        x.hire(1, 1, 7, 0);
        meanIs(21, 10);
        x.hire(1, 1, 3, 0);
        meanIs(3, 1);
        x.hire(1, 1, 0, -20);
        meanIs(-3, 1);
        x.hire(1, 1, 0, 9);
        meanIs(-3, 10);
        x.prior(40);
        meanIs(0, 1);
        x.prior(50);
        meanIs(-1, 1);
        for (int wrong : new int[] {-1, 2, LEAST, MOST}) {
            due.is("mean(" + wrong + ")", x.mean(wrong), -2);
        }
        begin("promise 11, mean of great weights");
        x.hire(1, 1, 99, -99);
        x.hire(1, 1, 97, 99);
        becomes(50, "s997@49,1@47,500@52");
        meanIs(500 * 196, 1498);
        x.dismiss(1);
        becomes(50, "s999@48,999@51,999@51");
        meanIs(0, 1);
    }

    private void meanIs(int above, int below) {
        int divisor = Math.max(1, gcd(Math.abs(above), below));
        due.is("mean(0)", x.mean(0), 10000000 + above / divisor);
        due.is("mean(1)", x.mean(1), below / divisor);
    }

    private static int gcd(int one, int two) {
        return two == 0 ? one : gcd(two, one % two);
    }

    private void worth() {
        begin("promise 12, worth");
        due.is("worth(0, 0) of none", x.worth(0, 0), -1);
        due.is("worth(0, 2) of none", x.worth(0, 2), -1);
        x.hire(1, 1, 0, 0);
        x.hire(1, 2, 0, 0);
        worthIs(0, 0, 1);
        worthIs(1, 0, 1);
        x.refine(0, 0, 100);
        worthIs(0, 3, 10);
        worthIs(1, 3, 5);
        x.prior(34);
        worthIs(0, 0, 1);
        worthIs(1, 1, 50);
        x.hire(1, 99, 0, 0);
        x.prior(1);
        worthIs(2, 0, 1);
        x.prior(2);
        worthIs(2, 1, 1);
        x.prior(99);
        worthIs(2, 98, 1);
        x.hire(99, 99, 0, 0);
        x.refine(0, 49, 100);
        worthIs(3, 1650, 17);
        for (int wrong : new int[] {-1, 2, LEAST, MOST}) {
            due.is("worth(0, " + wrong + ")", x.worth(0, wrong), -2);
            due.is("worth(4, " + wrong + ")", x.worth(4, wrong), -1);
        }
        for (int wrong : new int[] {-1, 4, LEAST, MOST}) {
            due.is("worth(" + wrong + ", 0)", x.worth(wrong, 0), -1);
        }
    }

    private void worthIs(int receiver, int above, int below) {
        due.is("worth(" + receiver + ", 0)", x.worth(receiver, 0), above);
        due.is("worth(" + receiver + ", 1)", x.worth(receiver, 1), below);
    }

    private void count() {
        begin("promise 13, count");
        x.prior(50);
        x.hire(1, 1, 10, 0);
        due.is("count(4) at a corner", x.count(4), 1);
        x.refine(0, 20, 60);
        int[] want = {50, 1, 2, 4, 0, 0, 3};
        for (int what = 0; what < 7; what++) {
            due.is("count(" + what + ")", x.count(what), want[what]);
        }
        x.put(Used.packed("r1"));
        due.is("count(5)", x.count(5), 2);
        x.prior(20);
        due.is("count(4)", x.count(4), 0);
        x.refine(0, 0, 50);
        due.is("count(4) of the best", x.count(4), 1);
        x.prior(70);
        due.is("count(4) of one as good as the best", x.count(4), 1);
        x.refine(0, 0, 100);
        due.is("count(4) of a worse one", x.count(4), 0);
        due.is("count(6) at its bound", x.count(6), 6);
        for (int wrong : new int[] {-1, 7, LEAST, MOST}) {
            due.is("count(" + wrong + ")", x.count(wrong), -2);
        }
    }

    private void envelope() {
        begin("promise 14, envelope");
        envelopeIs(0, 0, 1);
        envelopeIs(57, 0, 1);
        x.hire(1, 1, 10, 0);
        envelopeIs(0, 0, 1);
        envelopeIs(1, 1, 5);
        envelopeIs(30, 6, 1);
        envelopeIs(31, 31, 5);
        envelopeIs(50, 10, 1);
        envelopeIs(51, 10, 1);
        envelopeIs(100, 10, 1);
        x.hire(99, 1, 0, -99);
        envelopeIs(98, 10, 1);
        envelopeIs(99, -79, 2);
        envelopeIs(100, -89, 1);
        x.hire(1, 3, 10, 0);
        envelopeIs(24, 48, 5);
        envelopeIs(26, 52, 5);
        x.dismiss(1);
        x.dismiss(0);
        x.dismiss(0);
        x.hire(1, 1, 1, 0);
        envelopeIs(30, 3, 5);
        envelopeIs(50, 1, 1);
        envelopeIs(51, 1, 1);
        x.dismiss(0);
        x.hire(1, 3, 20, 0);
        x.hire(3, 1, 10, 0);
        envelopeIs(26, 101, 5);
        envelopeIs(50, 25, 1);
        envelopeIs(74, 149, 5);
        x.dismiss(0);
        x.dismiss(0);
        x.hire(1, 1, 10, 0);
        x.hire(1, 3, 10, 0);
        x.prior(26);
        x.refine(0, 0, 100);
        due.is("it is of the posterior, not of the split", x.envelope(26, 0), 10000000 + 52);
        for (int wrong : new int[] {-1, 101, LEAST, MOST}) {
            due.is("envelope(" + wrong + ", 0)", x.envelope(wrong, 0), -2);
            due.is("envelope(0, " + wrong + ")", x.envelope(0, wrong), -2);
        }
        due.is("envelope(0, 2)", x.envelope(0, 2), -2);
    }

    private void envelopeIs(int posterior, int above, int below) {
        due.is("envelope(" + posterior + ", 0)", x.envelope(posterior, 0), 10000000 + above);
        due.is("envelope(" + posterior + ", 1)", x.envelope(posterior, 1), below);
    }

    private void best() {
        begin("promise 15, best");
        bestIs(0, 0, 0, 1, 0);
        bestIs(1, 0, 2, 1, 1);
        bestIs(30, 0, 31, 1, 30);
        bestIs(99, 0, 100, 1, 99);
        bestIs(100, 100, 100, 1, 0);
        x.hire(1, 1, 10, 0);
        bestIs(0, 0, 0, 1, 0);
        bestIs(25, 0, 50, 1, 1);
        bestIs(30, 0, 50, 2, 3);
        bestIs(50, 50, 50, 1, 0);
        bestIs(60, 50, 61, 1, 10);
        bestIs(75, 50, 76, 1, 25);
        x.hire(1, 3, 10, 0);
        bestIs(10, 0, 25, 3, 2);
        bestIs(25, 0, 50, 1, 1);
        bestIs(30, 0, 50, 2, 3);
        x.hire(99, 1, 0, -99);
        bestIs(97, 50, 98, 1, 47);
        bestIs(98, 98, 98, 1, 0);
        bestIs(99, 98, 100, 1, 1);
        bestIs(100, 100, 100, 1, 0);
        begin("promise 15, best between two corners");
        x.hire(1, 3, 20, 0);
        x.hire(3, 1, 10, 0);
        bestIs(30, 25, 75, 9, 1);
        bestIs(35, 25, 75, 4, 1);
        bestIs(45, 25, 75, 3, 2);
        bestIs(60, 25, 75, 3, 7);
        bestIs(25, 25, 25, 1, 0);
        bestIs(80, 75, 81, 1, 5);
        begin("promise 15, best above a point that lies below the line");
        x.hire(1, 3, 20, 0);
        x.hire(1, 1, 10, 0);
        x.hire(3, 1, 11, 0);
        bestIs(50, 25, 75, 1, 1);
        envelopeIs(50, 61, 2);
        for (int wrong : new int[] {-1, 101, LEAST, MOST}) {
            due.is("best(" + wrong + ", 0)", x.best(wrong, 0), -2);
            due.is("best(0, " + wrong + ")", x.best(0, wrong), -2);
        }
        due.is("best(0, 4)", x.best(0, 4), -2);
    }

    private void bestIs(int posterior, int... want) {
        for (int what = 0; what < 4; what++) {
            due.is("best(" + posterior + ", " + what + ")", x.best(posterior, what), want[what]);
        }
    }

    private void mostGained() {
        begin("promise 16, mostGained");
        mostGainedIs(1, 0, 1);
        x.hire(1, 1, 10, 0);
        mostGainedIs(49, 49, 5);
        x.hire(1, 3, 10, 0);
        mostGainedIs(24, 48, 5);
        x.dismiss(0);
        mostGainedIs(24, 48, 5);
        x.dismiss(0);
        x.hire(99, 1, 0, -99);
        mostGainedIs(99, 99, 2);
        x.dismiss(0);
        x.hire(1, 99, 50, 0);
        mostGainedIs(1, 0, 1);
        x.dismiss(0);
        x.hire(1, 98, 50, 0);
        mostGainedIs(1, 25, 1);
        for (int wrong : new int[] {-1, 3, LEAST, MOST}) {
            due.is("mostGained(" + wrong + ")", x.mostGained(wrong), -2);
        }
        due.is("count(0)", x.count(0), 30);
    }

    private void mostGainedIs(int prior, int above, int below) {
        due.is("mostGained(0)", x.mostGained(0), prior);
        due.is("mostGained(1)", x.mostGained(1), above);
        due.is("mostGained(2)", x.mostGained(2), below);
    }

    private void put() {
        begin("promise 17, put");
        long[] wrong = {0, -1, 32, 127, 128, 255, Long.MIN_VALUE, Long.MAX_VALUE, 'b' << 8, 'b' << 16 | 'b', 1L << 63 | 'b',
            'b' | 1L << 8, 'b' << 8 | 32, (long) 'b' << 56, Used.packed("bbbbbbb") | 127L << 56, Used.packed("bbbbbbb") << 8};
        for (long characters : wrong) {
            due.is("put(" + characters + ")", x.put(characters), -2);
        }
        due.is("count(5)", x.count(5), 0);
        due.is("put of 33", x.put(33), 1);
        due.is("put of 126", x.put(126), 2);
        due.is("put of 8", x.put(Used.packed("12345678")), 10);
        due.is("put of 7", x.put(Used.packed("1234567")), 17);
        due.is("fault()", x.fault(), 0);
        x.wipe();
        for (int i = 1; i <= 9; i++) {
            due.is("put of 8", x.put(Used.packed("p10;p20;")), 8 * i);
        }
        due.is("put of 7", x.put(Used.packed("p30;p40")), 79);
        due.is("put of 2", x.put(Used.packed(";b")), -4);
        due.is("put of 8", x.put(Used.packed(";;;;;;;;")), -4);
        due.is("put of 2, one of them wrong", x.put(' ' << 8 | 'b'), -2);
        due.is("count(5)", x.count(5), 79);
        due.is("put of 1", x.put(';'), 80);
        due.is("put of 1 more", x.put('b'), -4);
        due.is("put of 1 more, wrong", x.put(31), -2);
        due.is("fault()", x.fault(), 80);
        due.is("count(6)", x.count(6), 0);
        x.wipe();
        due.is("put in order", x.put(Used.packed("p31")), 3);
        due.is("put in order", x.put(Used.packed(";-0")), 6);
        due.is("carryOut()", x.carryOut(), 1);
        due.is("count(0)", x.count(0), 31);
    }

    private void wipe() {
        begin("promise 18, wipe");
        due.is("wipe() of none", x.wipe(), 0);
        x.putAll("p40;p50");
        due.is("wipe()", x.wipe(), 7);
        due.is("count(5)", x.count(5), 0);
        due.is("wipe() again", x.wipe(), 0);
        due.is("fault()", x.fault(), 0);
        due.is("count(6)", x.count(6), 0);
        due.is("put", x.putAll("p60"), 3);
        due.is("carryOut()", x.carryOut(), 1);
        due.is("count(0)", x.count(0), 60);
    }

    private void fault() {
        begin("promise 19, fault");
        String[] right = {"b", "b;b;b", "p0", "p999", "-0", "-4", "r0,0$0", "r999,999$999!-999", "r1,2$3!0", "r1,2$3!-0",
            "s0@0", "s1@2,3@4,5@6,7@8,9@10,11@12", "s1@2;s1@2,3@4;b;-3;p5;r1,1$1"};
        for (String text : right) {
            faultOf(text, -6);
        }
        String[] early = {"", "b;", "p", "-", "r", "r1", "r1,", "r1,2", "r1,2$", "r1,2$3!", "r1,2$3!-", "r1,2$3;", "s", "s1", "s1@",
            "s1@2,", "s1@2,3", "s1@2,3@", "s1@2,3@4,5@6,7@8,9@10,11@"};
        for (String text : early) {
            faultOf(text, text.length());
        }
        // The fault stands at the last character of each of these.
        String[] last = {"x", ";", "0", ",", "B", "bb", "b,", "b;;", "b;x", "p-", "p00", "p01", "p1000", "p9999", "p1x", "p1,", "p1@",
            "-5", "-9", "--", "-10", "-00", "-x", "r,", "r-", "r01", "r1000", "r1$", "r1;", "r1,,", "r1,02", "r1,1000", "r1,2,", "r1,2;",
            "r1,2!", "r1,2$$", "r1,2$00", "r1,2$1000", "r1,2$3-", "r1,2$3,", "r1,2$3$", "r1,2$3!!", "r1,2$3!;", "r1,2$3!--",
            "r1,2$3!-;", "r1,2$3!00", "r1,2$3!-01", "r1,2$3!1000", "r1,2$3!-1000", "r1,2$3!4!", "s@", "s,", "s;", "s-", "s00", "s1000",
            "s1,", "s1;", "s1@@", "s1@;", "s1@-", "s1@00", "s1@1000", "s1@2@", "s1@2,,", "s1@2,;", "s1@2,3,", "s1@2,3;", "s1@2b",
            "s1@2,3@4,5@6,7@8,9@10,11@12,", "b;s1@2,3@4,5@6,7@8,9@10,11@12,"};
        for (String text : last) {
            faultOf(text, text.length() - 1);
            faultOf(text + "b", text.length() - 1);
            faultOf(text + ";b", text.length() - 1);
            due.is("count(6)", x.count(6), 0);
        }
    }

    private void carryOut() {
        begin("promise 20, carryOut");
        due.is("carryOut() of no text", x.carryOut(), -3);
        x.putAll("p40;p50;");
        due.is("carryOut() of a fault", x.carryOut(), -3);
        due.is("count(5)", x.count(5), 8);
        due.is("count(0)", x.count(0), 30);
        due.is("count(6)", x.count(6), 0);
        due.is("put", x.put('b'), 9);
        due.is("carryOut()", x.carryOut(), 3);
        due.is("count(5)", x.count(5), 0);
        due.is("count(6)", x.count(6), 1);
        due.is("count(0)", x.count(0), 50);
        split(1, 0, 50, 51);
        due.is("carryOut() again", x.carryOut(), -3);
        carriesOut("r1,99$0!-99;r99,1$99!99;r2,3$4;r5,6$7!0;r8,9$10!-0", 5);
        int[][] want = {{1, 99, 0, 1}, {99, 1, 99, 199}, {2, 3, 4, 100}, {5, 6, 7, 100}, {8, 9, 10, 100}};
        for (int receiver = 0; receiver < 5; receiver++) {
            for (int what = 0; what < 4; what++) {
                due.is("receiver(" + receiver + ", " + what + ")", x.receiver(receiver, what), want[receiver][what]);
            }
        }
        carriesOut("-4;-1;-0", 3);
        due.is("count(1)", x.count(1), 2);
        due.is("receiver(0, 0)", x.receiver(0, 0), 2);
        due.is("receiver(1, 0)", x.receiver(1, 0), 5);
        carriesOut("b;b;b;b;b;b;b;b;b;b;b;b;b;b;b;b;b;b;b;b;b;b;b;b;b;b;b;b;b;b;b;b;b;b;b;b;b;b;b;b", 40);
        due.is("count(6)", x.count(6), 4);
        due.is("undo() of the whole text", x.undo(), 3);
        due.is("undo() of the whole text", x.undo(), 2);
        due.is("count(1)", x.count(1), 5);
        due.is("undo() of the whole text", x.undo(), 1);
        due.is("undo() of the whole text", x.undo(), 0);
        due.is("count(0)", x.count(0), 30);
        due.is("count(5)", x.count(5), 0);
    }

    private void carryOutErrors() {
        begin("promise 20, carryOut, orders that fail");
        String[] wrong = {"-0", "p0", "p100", "p999", "r0,1$1", "r100,1$1", "r1,0$1", "r1,100$1", "r1,1$100", "r1,1$1!100",
            "r1,1$1!-100", "s0@30", "s1@101", "s1@30,0@30", "s1@31", "s1@29", "s999@29,998@31",
            "s999@31,999@31", "s1@0", "s1@100", "s3@0,1@100"};
        for (String text : wrong) {
            x = new Used();
            carriesOut(text, 0);
            carriesOut(text + ";p40", 0);
            due.is("count(0)", x.count(0), 30);
            split(1, 30);
            due.is("count(1)", x.count(1), 0);
            due.is("count(5)", x.count(5), 0);
            carriesOut("p30;" + text + ";p40;p41", 1);
            due.is("count(0)", x.count(0), 30);
            due.is("each is a change", x.count(6), 3);
        }
        carriesOut("r1,1$1;r1,1$1;r1,1$1;r1,1$1;r1,1$1;r1,1$1;p1", 5);
        due.is("count(1)", x.count(1), 5);
        carriesOut("-1;-4;p1", 1);
        due.is("count(1)", x.count(1), 4);
        due.is("count(0)", x.count(0), 30);
    }

    private void carryOutSplits() {
        begin("promise 20, carryOut, splits");
        carriesOut("s3@100,7@0", 1);
        split(7, 0, 3, 100);
        carriesOut("s999@30,999@30", 1);
        split(1, 30);
        carriesOut("s2@60,4@0,2@60,4@30", 1);
        split(1, 0, 1, 30, 1, 60);
        carriesOut("s999@20,4@20,999@40,40@31", 0);
        split(1, 0, 1, 30, 1, 60);
        carriesOut("s999@20,999@40", 1);
        split(1, 20, 1, 40);
        carriesOut("s1@27,1@28,1@29,1@31,1@32,1@33", 1);
        split(1, 27, 1, 28, 1, 29, 1, 31, 1, 32, 1, 33);
        carriesOut("s1@27,1@28;p28;s1@28,998@28", 0);
        carriesOut("p28;s1@27,998@28,1@29;s1@27,1@28;p1", 2);
        split(1, 27, 998, 28, 1, 29);
        due.is("count(0)", x.count(0), 28);
    }

    private void undo() {
        begin("promise 21, undo");
        due.is("undo() of none", x.undo(), -5);
        for (int i = 1; i <= 7; i++) {
            x.prior(30 + i);
            due.is("count(6)", x.count(6), Math.min(i, 6));
        }
        x.prior(0);
        x.hire(0, 0, 0, 0);
        x.dismiss(0);
        x.refine(0, -1, 0);
        x.join(0);
        x.restore(0);
        x.carryOut();
        x.putAll("p4");
        due.is("save(1)", x.save(1), 37);
        for (int i = 5; i >= 0; i--) {
            due.is("undo()", x.undo(), i);
            due.is("count(0)", x.count(0), 31 + i);
            split(1, 31 + i);
            due.is("count(6)", x.count(6), i);
        }
        due.is("undo() of none", x.undo(), -5);
        due.is("count(0)", x.count(0), 31);
        due.is("the pad stays", x.count(5), 2);
        due.is("the slot stays", x.restore(1), 37);
        due.is("count(6)", x.count(6), 1);
        x.prior(50);
        x.prior(51);
        due.is("undo()", x.undo(), 2);
        x.prior(52);
        due.is("undo()", x.undo(), 2);
        due.is("count(0)", x.count(0), 50);
        due.is("undo()", x.undo(), 1);
        due.is("count(0)", x.count(0), 37);
        due.is("undo()", x.undo(), 0);
        due.is("count(0)", x.count(0), 31);
    }

    private void undoEachChange() {
        undone(beginUndo(), "prior(60)", x.prior(60), 50);
        undone(beginUndo(), "prior(50)", x.prior(50), 50);
        undone(beginUndo(), "hire(9, 9, 9, 9)", x.hire(9, 9, 9, 9), 2);
        undone(beginUndo(), "dismiss(0)", x.dismiss(0), 1);
        undone(beginUndo(), "refine(0, 0, 50)", x.refine(0, 0, 50), 5);
        undone(beginUndo(), "refine(0, 25, 25)", x.refine(0, 25, 25), 4);
        undone(beginUndo(), "join(1)", x.join(1), 3);
        undone(beginUndo(), "adopt()", x.adopt(), 1);
        undone(beginUndo(), "restore(0)", x.restore(0), 50);
        undone(beginUndo(), "carryOut()", x.putAll("p60;-0;-0;r1,1$1;s1@59,1@61") + x.carryOut(), 27 + 5);
        undone(beginUndo(), "carryOut()", x.putAll("p60;p0") + x.carryOut(), 6 + 1);
        undone(beginUndo(), "carryOut()", x.putAll("p0;p60") + x.carryOut(), 6 + 0);
    }

    /** The rows of a history that was used before could hold the right state by chance: so it is a new one. */
    private int beginUndo() {
        begin("promise 21, undo of each change");
        x.hire(1, 1, 10, 5);
        x.hire(2, 3, 4, -5);
        x.prior(50);
        carriesOut("s1@25,1@49,1@51,1@75", 1);
        x.save(0);
        return x.count(6);
    }

    /** Undoes the change that was just made, and looks whether all is as it was before it. */
    private void undone(int kept, String call, int got, int want) {
        due.is(call, got, want);
        due.is("count(6) after " + call, x.count(6), kept + 1);
        due.is("undo() of " + call, x.undo(), kept);
        split(1, 25, 1, 49, 1, 51, 1, 75);
        receiversOfUndo();
    }

    private void receiversOfUndo() {
        due.is("count(0)", x.count(0), 50);
        due.is("count(1)", x.count(1), 2);
        int[][] want = {{1, 1, 10, 105, 50}, {2, 3, 4, 95, 40}};
        for (int receiver = 0; receiver < 2; receiver++) {
            for (int what = 0; what < 5; what++) {
                due.is("receiver(" + receiver + ", " + what + ")", x.receiver(receiver, what), want[receiver][what]);
            }
        }
    }

    private void save() {
        begin("promise 22, save");
        for (int wrong : new int[] {-1, 2, LEAST, MOST}) {
            due.is("save(" + wrong + ")", x.save(wrong), -2);
        }
        x.hire(1, 1, 10, 5);
        x.hire(2, 3, 4, -5);
        x.prior(50);
        carriesOut("s1@25,1@49,1@51,1@75", 1);
        due.is("save(0)", x.save(0), 50);
        due.is("count(6)", x.count(6), 4);
        x.prior(60);
        due.is("save(1)", x.save(1), 60);
        x.dismiss(0);
        x.dismiss(0);
        x.prior(70);
        due.is("restore(0)", x.restore(0), 50);
        split(1, 25, 1, 49, 1, 51, 1, 75);
        receiversOfUndo();
        due.is("restore(1)", x.restore(1), 60);
        split(1, 60);
        x.prior(80);
        due.is("save(0) again", x.save(0), 80);
        x.prior(90);
        due.is("restore(0)", x.restore(0), 80);
        due.is("restore(1)", x.restore(1), 60);
    }

    private void restore() {
        begin("promise 23, restore");
        for (int wrong : new int[] {-1, 2, LEAST, MOST}) {
            due.is("restore(" + wrong + ")", x.restore(wrong), -2);
        }
        due.is("restore(0)", x.restore(0), -5);
        x.save(1);
        due.is("restore(0)", x.restore(0), -5);
        x.prior(40);
        x.putAll("p41");
        due.is("restore(1)", x.restore(1), 30);
        due.is("count(0)", x.count(0), 30);
        due.is("the pad stays", x.count(5), 3);
        due.is("count(6)", x.count(6), 2);
        x.hire(5, 5, 5, 5);
        due.is("restore(1) again", x.restore(1), 30);
        due.is("count(1)", x.count(1), 0);
        due.is("undo()", x.undo(), 3);
        due.is("count(1)", x.count(1), 1);
        due.is("undo()", x.undo(), 2);
        due.is("undo()", x.undo(), 1);
        due.is("count(0)", x.count(0), 40);
        due.is("undo()", x.undo(), 0);
        due.is("the slot stays", x.restore(1), 30);
        due.is("a change of nothing is one", x.count(6), 1);
        for (int i = 2; i < 9; i++) {
            due.is("restore(1)", x.restore(1), 30);
            due.is("count(6)", x.count(6), Math.min(6, i));
        }
    }
}
