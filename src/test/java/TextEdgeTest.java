/** The boundary cases of the terms about texts and of the promises 17 to 20, a sentence a test. */
public final class TextEdgeTest extends Asker {
    private static final String DIGITS = "0123456789";
    private static final String FIVE_PARTS = "s1@2,3@4,5@6,7@8,9@";

    public static void main(String[] args) throws Exception {
        new TextEdgeTest().runAll();
    }

    // ---- texts

    void padOf80() {
        says("The pad is a text of at most 80 characters");
        for (int i = 1; i <= 10; i++) {
            is(x.put(Used.packed("p10;p10;")), 8 * i);
        }
        is(x.put('b'), TOO_MANY);
        is(x.count(5), 80);
        is(x.fault(), 80);
        fresh();
        is(x.putAll("p9" + ";b".repeat(39)), 80);
        is(x.fault(), NONE);
        is(x.put(';'), TOO_MANY);
        is(x.fault(), NONE);
        is(x.carryOut(), 40);
        is(x.count(0), 9);
    }

    void textOfOrders() {
        says("text = order { \";\" order }");
        next("", "rpsb-", false);
        next("b", ";", true);
        next("b;", "rpsb-", false);
        next("b;b", ";", true);
        next("-0;", "rpsb-", false);
        next("p1;", "rpsb-", false);
        next("s1@2;", "rpsb-", false);
        next("r1,2$3;", "rpsb-", false);
        next("r1,2$3!4;", "rpsb-", false);
        next("b;b;b;b;b;b;b;b;b;b;b;b;b;b;b;b;b;b;b;b;b;b;b;b;b;b;b;b;b;b;b;b;b;b;b;b;b;b;b;", "rpsb-", false);
    }

    void orderToHire() {
        says("\"r\" number \",\" number \"$\" number [ \"!\" [ \"-\" ] number ]");
        next("r", DIGITS, false);
        number("r", ",", false);
        next("r1,", DIGITS, false);
        number("r1,", "$", false);
        next("r1,2$", DIGITS, false);
        number("r1,2$", "!;", true);
        next("r1,2$3!", DIGITS + "-", false);
        number("r1,2$3!", ";", true);
        next("r1,2$3!-", DIGITS, false);
        number("r1,2$3!-", ";", true);
        next("b;r1,2$3!-", DIGITS, false);
    }

    void orderToDismiss() {
        says("\"-\" digit");
        next("-", "01234", false);
        for (int digit = 0; digit <= 4; digit++) {
            next("-" + digit, ";", true);
        }
        next("b;-", "01234", false);
    }

    void orderOfAPrior() {
        says("\"p\" number");
        next("p", DIGITS, false);
        number("p", ";", true);
        next("b;p", DIGITS, false);
        number("b;p", ";", true);
    }

    void orderOfASplit() {
        says("\"s\" part { \",\" part }");
        next("s", DIGITS, false);
        number("s", "@", false);
        next("s1@", DIGITS, false);
        number("s1@", ",;", true);
        next("s1@2,", DIGITS, false);
        number("s1@2,", "@", false);
        number("s1@2,3@", ",;", true);
        next("b;s", DIGITS, false);
    }

    void orderOfTheBest() {
        says("| \"b\"; ");
        next("p1;b", ";", true);
        next("b;p1;b", ";", true);
    }

    void aDigit() {
        says("A digit is 0 to 4");
        faultOf("-0", NONE);
        faultOf("-4", NONE);
        faultOf("-5", 1);
        faultOf("-9", 1);
        faultOf("-/", 1);
        faultOf("-:", 1);
        faultOf("-00", 2);
    }

    void aNumber() {
        says("a number 0 to 999, without leading zeros");
        faultOf("p0", NONE);
        faultOf("p9", NONE);
        faultOf("p10", NONE);
        faultOf("p99", NONE);
        faultOf("p100", NONE);
        faultOf("p999", NONE);
        faultOf("p00", 2);
        faultOf("p01", 2);
        faultOf("p09", 2);
        faultOf("s00@1", 2);
        faultOf("s1@01", 4);
        faultOf("r0,0$00", 6);
        faultOf("r1,2$3!-00", 9);
        faultOf("p/", 1);
        faultOf("p:", 1);
    }

    void aDigitTooMany() {
        says("(also of a digit by which a number would be above 999, and of the \",\" ahead of a seventh part)");
        faultOf("p1000", 4);
        faultOf("p9999", 4);
        faultOf("p9990", 4);
        faultOf("p10000", 4);
        faultOf("r1000,1$1", 4);
        faultOf("r999,1000$1", 8);
        faultOf("r999,999$1000", 12);
        faultOf("r999,999$999!1000", 16);
        faultOf("r999,999$999!-1000", 17);
        faultOf("s1000@1", 4);
        faultOf("s999@1000", 8);
        faultOf("s999@999,1000@1", 12);
    }

    void aSeventhPart() {
        says("and of the \",\" ahead of a seventh part");
        next(FIVE_PARTS, DIGITS, false);
        number(FIVE_PARTS, ",;", true);
        next(FIVE_PARTS + "10,", DIGITS, false);
        number(FIVE_PARTS + "10,", "@", false);
        next(FIVE_PARTS + "10,11@", DIGITS, false);
        number(FIVE_PARTS + "10,11@", ";", true);
        faultOf(FIVE_PARTS + "10,11@12,13@14", FIVE_PARTS.length() + 8);
        faultOf(FIVE_PARTS + "10,11@12;s1@2,3@4", NONE);
        faultOf("b;" + FIVE_PARTS + "10,11@12,", FIVE_PARTS.length() + 10);
    }

    void theFirstFault() {
        says("The fault is the index of the first character that cannot stand at its place when the text is read from left to right");
        faultOf("x", 0);
        faultOf("xyz", 0);
        faultOf("B", 0);
        faultOf(";b", 0);
        faultOf("b;;b", 2);
        faultOf("b;x;y", 2);
        faultOf("b,b", 1);
        faultOf("p1;p01;p1000", 5);
        faultOf("b".repeat(80), 1);
        faultOf("b;".repeat(39) + "bb", 79);
        faultOf("b;".repeat(39) + "b;", 80);
        faultOf("b;".repeat(39) + "p", 79);
        faultOf("b;".repeat(39) + "p1", NONE);
        faultOf("b;".repeat(39) + "p;", 79);
    }

    void theTextEndsTooEarly() {
        says("if there is none and the text ends too early (also if it is empty), it is the length of the text");
        is(x.fault(), 0);
        String[] early = {"r", "r1", "r1,", "r1,2", "r1,2$", "r1,2$3!", "r1,2$3!-", "r1,2$3;", "-", "p", "s", "s1", "s1@", "s1@2,", "s1@2,3",
            "s1@2,3@", "b;", "b;-", FIVE_PARTS + "10,11@"};
        for (String text : early) {
            faultOf(text, text.length());
        }
        faultOf("b;".repeat(40), 80);
    }

    void theBonusIsLeftOut() {
        says("(0, if it is left out)");
        carriesOut("r1,1$9!7;r1,1$9;r1,1$9!-7;r1,1$9;r1,1$9!0", 5);
        int[] bonuses = {107, 100, 93, 100, 100};
        for (int i = 0; i < 5; i++) {
            is(x.receiver(i, 3), bonuses[i]);
        }
        x.dismiss(4);
        carriesOut("r1,1$9!-0", 1);
        is(x.receiver(4, 3), 100);
    }

    void hireByATextAtItsBounds() {
        says("\"r\": hire(): loss and gain of a receiver, the pay, and the bonus");
        carriesOut("r1,99$0!-99;r99,1$99!99", 2);
        receiverIs(0, 1, 99, 0, 1, 1);
        receiverIs(1, 99, 1, 99, 199, 99);
        for (String text : new String[] {"r0,1$1", "r100,1$1", "r1,0$1", "r1,100$1", "r1,1$100", "r1,1$1!100", "r1,1$1!-100", "r999,1$1",
            "r1,999$1", "r1,1$999", "r1,1$1!999", "r1,1$1!-999"}) {
            carriesOut(text, 0);
            is(x.count(1), 2);
        }
        carriesOut("r1,1$1;r1,1$1;r1,1$1;r1,1$1;p40", 3);
        is(x.count(1), 5);
        is(x.count(0), 30);
    }

    void dismissByAText() {
        says("\"-\": dismiss() a receiver");
        carriesOut("-0", 0);
        hireFive();
        carriesOut("-4;-4;-3", 1);
        is(x.count(1), 4);
        carriesOut("-3;-3", 1);
        carriesOut("-0;-0;-0;-0", 3);
        is(x.count(1), 0);
    }

    void priorByAText() {
        says("\"p\": prior()");
        for (String text : new String[] {"p0", "p100", "p999"}) {
            carriesOut(text, 0);
            is(x.count(0), 30);
        }
        x.refine(0, 0, 100);
        carriesOut("p1", 1);
        parts(1, 1);
        carriesOut("p99", 1);
        parts(1, 99);
        x.refine(0, 0, 100);
        carriesOut("p99", 1);
        parts(1, 99);
    }

    void splitOutOfRange() {
        says("the order returns BAD_VALUE if one of them is out of range");
        x.prior(50);
        for (String text : new String[] {"s0@50", "s1@50,0@50", "s0@50,1@50", "s51@49,1@101", "s1@101,51@49", "s949@49,1@999",
            "s1@20,1@30,1@50,1@70,1@80,0@90"}) {
            carriesOut(text, 0);
            parts(1, 50);
        }
        carriesOut("s1@0,1@100", 1);
        parts(1, 0, 1, 100);
        carriesOut("s1@49,999@50,1@51", 1);
        parts(1, 49, 999, 50, 1, 51);
    }

    void splitOfTooGreatWeights() {
        says("TOO_MANY if a weight would be above 999 then");
        x.prior(50);
        carriesOut("s999@50,1@50,1@49,1@51", 0);
        carriesOut("s1@0,500@40,500@60,1@100,500@40,500@60", 0);
        parts(1, 50);
        carriesOut("s1@0,500@40,500@60,1@100,499@40,499@60", 1);
        parts(1, 0, 999, 40, 999, 60, 1, 100);
        carriesOut("s2@0,500@40,500@60,2@100,500@40,500@60", 1);
        parts(1, 0, 500, 40, 500, 60, 1, 100);
    }

    void splitOfAnotherMean() {
        says("NOT_POSSIBLE if they do not average to the prior");
        x.prior(50);
        for (String text : new String[] {"s1@49", "s1@51", "s999@50,1@51", "s1@49,999@50", "s1@0,1@99", "s1@0", "s1@100", "s999@1,998@99",
            "s999@49,999@49", "s999@1,999@98,999@1,999@98"}) {
            carriesOut(text, 0);
            parts(1, 50);
        }
        carriesOut("s1@1,1@99", 1);
        parts(1, 1, 1, 99);
        carriesOut("p51;s1@1,1@99", 1);
        parts(1, 51);
    }

    void adoptByAText() {
        says("\"b\": adopt()");
        carriesOut("b", 1);
        parts(1, 0, 30, 31);
        hire(FROM_50, 10, 0);
        carriesOut("p50;b;b", 3);
        parts(1, 50);
        carriesOut("p49;b", 2);
        parts(1, 0, 49, 50);
    }

    // ---- promise 17

    void putInOrder() {
        says("its lowest 8 bits are the last character, the next 8 bits the one before, and so on");
        is(x.put('p' << 16 | '4' << 8 | '1'), 3);
        is(x.put(';'), 4);
        is(x.put(Used.packed("-0;p51;b")), 12);
        is(x.fault(), NONE);
        is(x.carryOut(), 1);
        is(x.count(0), 41);
        is(x.put(Used.packed("p12;p13;")), 8);
        is(x.put(Used.packed("p14")), 11);
        is(x.carryOut(), 3);
        is(x.count(0), 14);
    }

    void putOneToEight() {
        says("`characters`: 1 to 8 characters");
        is(x.put(0), BAD_VALUE);
        int length = 0;
        for (int more = 1; more <= 8; more++) {
            length += more;
            is(x.put(Used.packed("bbbbbbbb".substring(0, more))), length);
            is(x.count(5), length);
        }
    }

    void putNothingAboveTheZeroBits() {
        says("8 bits that are 0 mean that there are no more characters, and everything above them has to be 0, too");
        for (int bit = 8; bit < 64; bit++) {
            is(x.put(1L << bit), BAD_VALUE);
        }
        for (int more = 1; more <= 6; more++) {
            long some = Used.packed("bbbbbb".substring(0, more));
            for (int bit = 8 * more + 8; bit < 64; bit++) {
                is(x.put(some | 1L << bit), BAD_VALUE);
            }
        }
        for (int gap = 1; gap <= 7; gap++) {
            is(x.put(Used.packed("bbbbbbbb") & ~(255L << 8 * gap)), gap == 7 ? 7 : BAD_VALUE);
        }
        is(x.count(5), 7);
    }

    void putNoCharacter() {
        says("Returns the length of the pad then; BAD_VALUE if there is no character");
        is(x.put(0), BAD_VALUE);
        is(x.put(Used.packed("b") << 8), BAD_VALUE);
        is(x.put(Used.packed("bbbbbbb") << 8), BAD_VALUE);
        is(x.put(Long.MIN_VALUE), BAD_VALUE);
        is(x.count(5), 0);
    }

    void putCodesFrom33To126() {
        says("a code is not 33 to 126");
        for (int place = 0; place < 8; place++) {
            for (int code : new int[] {1, 9, 10, 31, 32, 127, 128, 160, 254, 255}) {
                is(x.put(with(place, code)), BAD_VALUE);
            }
        }
        is(x.count(5), 0);
        for (int place = 0; place < 8; place++) {
            fresh();
            is(x.put(with(place, 33)), 8);
            is(x.put(with(place, 126)), 16);
        }
        fresh();
        is(x.put(32), BAD_VALUE);
        is(x.put(33), 1);
        is(x.put(126), 2);
        is(x.put(127), BAD_VALUE);
        is(x.put(-1), BAD_VALUE);
        is(x.put(Long.MAX_VALUE), BAD_VALUE);
    }

    private static long with(int place, int code) {
        return Used.packed("bbbbbbbb") & ~(255L << 8 * place) | (long) code << 8 * place;
    }

    void putBeyond80() {
        says("TOO_MANY if the pad would be longer than 80.");
        for (int had = 72; had <= 80; had++) {
            for (int more = 1; more <= 8; more++) {
                fresh();
                x.putAll("b".repeat(had));
                boolean fits = had + more <= 80;
                is(x.put(Used.packed("bbbbbbbb".substring(0, more))), fits ? had + more : TOO_MANY);
                is(x.count(5), fits ? had + more : had);
            }
        }
    }

    void putErrorsInOrder() {
        says("or a bit above 8 bits that are 0 is not 0; TOO_MANY if the pad would be longer than 80");
        x.putAll("b".repeat(79));
        is(x.put(Used.packed("bb")), TOO_MANY);
        is(x.put(' ' << 8 | 'b'), BAD_VALUE);
        is(x.put('b' << 8 | 127), BAD_VALUE);
        is(x.put('b' << 16 | 'b'), BAD_VALUE);
        is(x.put('b'), 80);
        is(x.put(0), BAD_VALUE);
        is(x.put(32), BAD_VALUE);
        is(x.put('b'), TOO_MANY);
        is(x.count(5), 80);
    }

    // ---- promise 18

    void wipeLength() {
        says("Empties the pad, and returns the length that it had.");
        is(x.wipe(), 0);
        is(x.wipe(), 0);
        x.put('b');
        is(x.wipe(), 1);
        is(x.count(5), 0);
        is(x.fault(), 0);
        is(x.carryOut(), BAD_TEXT);
        is(x.putAll("b;".repeat(40)), 80);
        is(x.put('b'), TOO_MANY);
        is(x.wipe(), 80);
        is(x.wipe(), 0);
        is(x.put('b'), 1);
        is(x.fault(), NONE);
    }

    // ---- promise 19

    void faultNone() {
        says("Returns the fault of the pad, NONE if there is none.");
        is(x.fault(), 0);
        x.put('b');
        is(x.fault(), NONE);
        x.put(';');
        is(x.fault(), 2);
        x.put('-');
        is(x.fault(), 3);
        x.put('4');
        is(x.fault(), NONE);
        x.put('4');
        is(x.fault(), 4);
        x.put(';');
        is(x.fault(), 4);
        is(x.count(5), 6);
    }

    // ---- promise 20

    void oneAfterTheOther() {
        says("Carries the orders of the pad out, one after the other");
        carriesOut("p60;s1@59,1@61;r1,1$2;r3,4$5;-0", 5);
        is(x.count(0), 60);
        parts(1, 59, 1, 61);
        is(x.count(1), 1);
        receiverIs(0, 3, 4, 5, 100);
        carriesOut("-0;r1,1$9;p50;b;p40;p30;b", 7);
        is(x.count(0), 30);
        parts(2, 0, 3, 50);
    }

    void upToTheFirstError() {
        says("up to the first one that returns an error");
        carriesOut("p0;p40;p41", 0);
        is(x.count(0), 30);
        carriesOut("p40;-0;p41", 1);
        is(x.count(0), 40);
        carriesOut("p41;p42;s1@41", 2);
        is(x.count(0), 42);
        parts(1, 42);
        carriesOut("s1@0,1@84;s1@42,0@42;p1", 1);
        parts(1, 0, 1, 84);
        carriesOut("p100;p100;p100", 0);
        is(x.count(0), 42);
    }

    void emptiesThePad() {
        says("and empties the pad");
        for (String text : new String[] {"p40", "p0", "p40;p0", "p0;p40", "p40;p0;p41"}) {
            x.putAll(text);
            x.carryOut();
            is(x.count(5), 0);
            is(x.fault(), 0);
            is(x.wipe(), 0);
            is(x.carryOut(), BAD_TEXT);
        }
        is(x.put('b'), 1);
        is(x.carryOut(), 1);
    }

    void oneChange() {
        says("This is a change (one, with all of them; also if none is carried out).");
        carriesOut("p40", 1);
        is(x.count(6), 1);
        carriesOut("p41;p42;p43;p44;p45;p46;p47;p48;p49;b", 10);
        is(x.count(6), 2);
        carriesOut("p0", 0);
        is(x.count(6), 3);
        carriesOut("p50;p0;p51", 1);
        is(x.count(6), 4);
        is(x.undo(), 3);
        is(x.count(0), 49);
        is(x.undo(), 2);
        is(x.count(0), 49);
        parts(1, 0, 49, 50);
        is(x.undo(), 1);
        is(x.count(0), 40);
        is(x.undo(), 0);
        is(x.count(0), 30);
    }

    void carriedOut() {
        says("Returns how many orders were carried out");
        carriesOut("b", 1);
        carriesOut("p0", 0);
        carriesOut("b;".repeat(39) + "b", 40);
        carriesOut("b;".repeat(39) + "p1", 40);
        carriesOut("b;".repeat(39) + "p0", 39);
        is(x.count(0), 1);
    }

    void aFaultStays() {
        says("BAD_TEXT if the pad has a fault (then it stays).");
        is(x.carryOut(), BAD_TEXT);
        x.putAll("p40;p50;");
        is(x.carryOut(), BAD_TEXT);
        is(x.carryOut(), BAD_TEXT);
        is(x.count(5), 8);
        is(x.fault(), 8);
        is(x.count(0), 30);
        is(x.count(6), 0);
        x.put('b');
        is(x.carryOut(), 3);
        is(x.count(0), 50);
        is(x.count(6), 1);
        x.putAll("p40;p50;x");
        is(x.carryOut(), BAD_TEXT);
        x.put('b');
        is(x.carryOut(), BAD_TEXT);
        is(x.count(5), 10);
        is(x.fault(), 8);
        is(x.count(0), 50);
        is(x.count(6), 1);
    }

    // ---- how texts are asked

    private void faultOf(String text, int fault) {
        fresh();
        x.putAll(text);
        due.is("fault of " + text, x.fault(), fault);
    }

    /** Of all characters these, and no others, can stand behind the text; it may end there, or not. */
    private void next(String text, String these, boolean mayEnd) {
        faultOf(text, mayEnd ? NONE : text.length());
        for (char sign = 33; sign <= 126; sign++) {
            String longer = text + sign;
            if (these.indexOf(sign) < 0) {
                faultOf(longer, text.length());
            } else {
                fresh();
                x.putAll(longer);
                int fault = x.fault();
                due.is("no fault of " + longer + " but its end", fault == NONE || fault == longer.length() ? 1 : 0, 1);
            }
        }
    }

    /** A number behind the text: what may follow it, and that a digit may as long as it stays below 1000. */
    private void number(String text, String these, boolean mayEnd) {
        for (String last : new String[] {"0", "100", "101", "998", "999"}) {
            next(text + last, these, mayEnd);
        }
        for (String more : new String[] {"1", "9", "10", "99"}) {
            next(text + more, these + DIGITS, mayEnd);
        }
    }
}
