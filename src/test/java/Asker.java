import java.lang.reflect.InvocationTargetException;
import java.lang.reflect.Method;
import java.lang.reflect.Modifier;
import java.util.Arrays;
import java.util.Comparator;

/** What the tests of single sentences share: each method without parameters that is not private is one, and
 * says its sentence first. */
abstract class Asker {
    static final int LEAST = Integer.MIN_VALUE;
    static final int MOST = Integer.MAX_VALUE;
    static final int NO_SUCH = -1, BAD_VALUE = -2, BAD_TEXT = -3, TOO_MANY = -4, NOT_POSSIBLE = -5, NONE = -6;
    /** Loss and gain of receivers who act from 1, 20, 40, 50, 60, 80, 99 on. */
    static final int[] FROM_1 = {1, 99}, FROM_20 = {1, 4}, FROM_40 = {2, 3}, FROM_50 = {1, 1}, FROM_60 = {3, 2},
            FROM_80 = {4, 1}, FROM_99 = {99, 1};

    Due due = new Due();
    Used x = new Used();
    private String sentence = "";

    final void runAll() throws IllegalAccessException, InvocationTargetException {
        Method[] methods = getClass().getDeclaredMethods();
        Arrays.sort(methods, Comparator.comparing(Method::getName));
        for (Method method : methods) {
            if (method.getParameterCount() == 0 && (method.getModifiers() & (Modifier.STATIC | Modifier.PRIVATE)) == 0) {
                sentence = "";
                method.invoke(this);
                due.is("the sentence of " + method.getName() + " is told", sentence.isEmpty() ? 0 : 1, 1);
            }
        }
        due.end();
    }

    /** What is asked behind this is asked of a new object. */
    final void says(String words) {
        sentence = words;
        due.about('"' + words + '"');
        fresh();
    }

    final void fresh() {
        x = new Used();
    }

    /** Only for an answer that was just asked for. */
    final void is(int got, int want) {
        due.is(x.last(), got, want);
    }

    final void hire(int[] lossAndGain, int pay, int bonus) {
        due.is("hire", x.hire(lossAndGain[0], lossAndGain[1], pay, bonus) >= 0 ? 1 : 0, 1);
    }

    final void hireFive() {
        hire(FROM_20, 11, 1);
        hire(FROM_40, 12, -2);
        hire(FROM_50, 13, 3);
        hire(FROM_60, 14, -4);
        hire(FROM_80, 15, 5);
    }

    /** A new object with this prior and this split. */
    final void splitOf(int prior, String text) {
        fresh();
        x.prior(prior);
        carriesOut(text, 1);
    }

    final void carriesOut(String text, int orders) {
        due.is("put of " + text, x.putAll(text), text.length());
        due.is("carryOut of " + text, x.carryOut(), orders);
    }

    /** The split, told by weights and posteriors in turn. */
    final void parts(int... told) {
        is(x.count(2), told.length / 2);
        int sum = 0;
        for (int i = 0; i < told.length; i += 2) {
            is(x.part(i / 2, 0), told[i]);
            is(x.part(i / 2, 1), told[i + 1]);
            sum += told[i];
        }
        is(x.part(told.length / 2, 0), NO_SUCH);
        is(x.count(3), sum);
    }

    final void receiverIs(int receiver, int... told) {
        for (int what = 0; what < told.length; what++) {
            is(x.receiver(receiver, what), told[what]);
        }
    }

    final void mean(int above, int below) {
        is(x.mean(0), 10000000 + above);
        is(x.mean(1), below);
    }

    final void worth(int receiver, int above, int below) {
        is(x.worth(receiver, 0), above);
        is(x.worth(receiver, 1), below);
    }

    final void envelope(int posterior, int above, int below) {
        is(x.envelope(posterior, 0), 10000000 + above);
        is(x.envelope(posterior, 1), below);
    }

    final void best(int posterior, int lower, int upper, int lowerWeight, int upperWeight) {
        is(x.best(posterior, 0), lower);
        is(x.best(posterior, 1), upper);
        is(x.best(posterior, 2), lowerWeight);
        is(x.best(posterior, 3), upperWeight);
    }

    final void mostGained(int prior, int above, int below) {
        is(x.mostGained(0), prior);
        is(x.mostGained(1), above);
        is(x.mostGained(2), below);
    }
}
