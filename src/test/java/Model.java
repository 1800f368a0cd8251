import java.util.ArrayDeque;
import java.util.ArrayList;
import java.util.Deque;
import java.util.List;
import java.util.Map;
import java.util.TreeMap;
import java.util.regex.Matcher;
import java.util.regex.Pattern;

/** The document told once more, as plainly and as slowly as may be: splits are tried one by one. */
final class Model {
    private static final int NO_SUCH = -1, BAD_VALUE = -2, BAD_TEXT = -3, TOO_MANY = -4, NOT_POSSIBLE = -5, NONE = -6;

    private static final String NUMBER = "(?:0|[1-9][0-9]?[0-9]?)";
    private static final String PART = NUMBER + "@" + NUMBER;
    private static final String ORDER = "(?:r" + NUMBER + "," + NUMBER + "\\$" + NUMBER + "(?:!-?" + NUMBER + ")?|-[0-4]|p"
            + NUMBER + "|s" + PART + "(?:," + PART + "){0,5}|b)";
    private static final Pattern TEXT = Pattern.compile(ORDER + "(?:;" + ORDER + ")*");

    /** What a change may change; never altered once it is kept in the history or a slot. */
    private static final class Kept {
        int prior = 30;
        List<int[]> receivers = new ArrayList<>();
        TreeMap<Integer, Long> split = new TreeMap<>(Map.of(30, 1L));

        Kept copy() {
            Kept copy = new Kept();
            copy.prior = prior;
            copy.receivers = new ArrayList<>(receivers);
            copy.split = new TreeMap<>(split);
            return copy;
        }
    }

    private Kept now = new Kept();
    private final Deque<Kept> history = new ArrayDeque<>();
    private final Kept[] slots = new Kept[2];
    private String pad = "";

    private int changed(Kept before, int answer) {
        if (answer < 0) {
            now = before;
        } else {
            history.addLast(before);
            if (history.size() > 6) {
                history.removeFirst();
            }
        }
        return answer;
    }

    int prior(int share) {
        Kept before = now.copy();
        return changed(before, doPrior(share));
    }

    private int doPrior(int share) {
        if (share < 1 || share > 99) return BAD_VALUE;
        int previous = now.prior;
        now.prior = share;
        now.split = new TreeMap<>(Map.of(share, 1L));
        return previous;
    }

    int hire(int loss, int gain, int pay, int bonus) {
        Kept before = now.copy();
        return changed(before, doHire(loss, gain, pay, bonus));
    }

    private int doHire(int loss, int gain, int pay, int bonus) {
        if (loss < 1 || loss > 99 || gain < 1 || gain > 99 || pay < 0 || pay > 99 || bonus < -99 || bonus > 99) return BAD_VALUE;
        if (now.receivers.size() == 5) return TOO_MANY;
        now.receivers.add(new int[] {loss, gain, pay, bonus});
        return now.receivers.size() - 1;
    }

    int dismiss(int receiver) {
        Kept before = now.copy();
        return changed(before, doDismiss(receiver));
    }

    private int doDismiss(int receiver) {
        if (noReceiver(receiver)) return NO_SUCH;
        now.receivers.remove(receiver);
        return now.receivers.size();
    }

    int refine(int part, int lower, int upper) {
        Kept before = now.copy();
        return changed(before, doRefine(part, lower, upper));
    }

    private int doRefine(int part, int lower, int upper) {
        if (noPart(part)) return NO_SUCH;
        int posterior = posteriorOf(part);
        if (lower < 0 || lower > posterior || upper < posterior || upper > 100) return BAD_VALUE;
        if (lower == posterior || upper == posterior) return now.split.size();
        for (long factor = 1; ; factor++) {
            long weight = now.split.get(posterior) * factor;
            if (weight * (upper - posterior) % (upper - lower) == 0) {
                TreeMap<Integer, Long> next = new TreeMap<>();
                for (Map.Entry<Integer, Long> entry : now.split.entrySet()) {
                    if (entry.getKey() != posterior) next.put(entry.getKey(), entry.getValue() * factor);
                }
                long low = weight * (upper - posterior) / (upper - lower);
                next.merge(lower, low, Long::sum);
                next.merge(upper, weight - low, Long::sum);
                return become(next);
            }
        }
    }

    int join(int part) {
        Kept before = now.copy();
        return changed(before, doJoin(part));
    }

    private int doJoin(int part) {
        if (part < 0 || part >= now.split.size() - 1) return NO_SUCH;
        int one = posteriorOf(part);
        int two = posteriorOf(part + 1);
        TreeMap<Integer, Long> next = new TreeMap<>(now.split);
        long first = next.remove(one);
        long second = next.remove(two);
        if ((first * one + second * two) % (first + second) != 0) return NOT_POSSIBLE;
        next.merge((int) ((first * one + second * two) / (first + second)), first + second, Long::sum);
        return become(next);
    }

    int adopt() {
        Kept before = now.copy();
        return changed(before, doAdopt());
    }

    private int doAdopt() {
        int[] best = bestSplit(now.prior);
        TreeMap<Integer, Long> next = new TreeMap<>(Map.of(best[0], (long) best[2]));
        if (best[3] > 0) next.put(best[1], (long) best[3]);
        return become(next);
    }

    private int become(TreeMap<Integer, Long> next) {
        long divisor = 0;
        for (long weight : next.values()) divisor = gcd(divisor, weight);
        TreeMap<Integer, Long> reduced = new TreeMap<>();
        for (Map.Entry<Integer, Long> entry : next.entrySet()) {
            if (entry.getValue() / divisor > 999) return TOO_MANY;
            reduced.put(entry.getKey(), entry.getValue() / divisor);
        }
        if (reduced.size() > 6) return TOO_MANY;
        now.split = reduced;
        return reduced.size();
    }

    int receiver(int receiver, int what) {
        if (noReceiver(receiver)) return NO_SUCH;
        if (what < 0 || what > 4) return BAD_VALUE;
        if (what == 3) return now.receivers.get(receiver)[3] + 100;
        if (what < 3) return now.receivers.get(receiver)[what];
        int loss = now.receivers.get(receiver)[0];
        int gain = now.receivers.get(receiver)[1];
        return (100 * loss + loss + gain - 1) / (loss + gain);
    }

    int part(int part, int what) {
        if (noPart(part)) return NO_SUCH;
        if (what < 0 || what > 3) return BAD_VALUE;
        int posterior = posteriorOf(part);
        if (what == 0) return (int) (long) now.split.get(posterior);
        if (what == 1) return posterior;
        if (what == 3) return 1000 + valueAt(posterior);
        int set = 0;
        for (int i = 0; i < now.receivers.size(); i++) {
            if (acts(now.receivers.get(i), posterior)) set += Math.round(Math.pow(2, i));
        }
        return set;
    }

    int value(int posterior) {
        return badPosterior(posterior) ? BAD_VALUE : 1000 + valueAt(posterior);
    }

    int mean(int what) {
        if (what != 0 && what != 1) return BAD_VALUE;
        long[] mean = meanValue();
        return (int) (what == 0 ? mean[0] + 10000000 : mean[1]);
    }

    private long[] meanValue() {
        long sum = 0;
        for (Map.Entry<Integer, Long> entry : now.split.entrySet()) sum += entry.getValue() * valueAt(entry.getKey());
        return lowest(sum, weights());
    }

    int worth(int receiver, int what) {
        if (noReceiver(receiver)) return NO_SUCH;
        if (what != 0 && what != 1) return BAD_VALUE;
        long sum = 0;
        int[] told = now.receivers.get(receiver);
        for (Map.Entry<Integer, Long> entry : now.split.entrySet()) {
            int x = entry.getKey();
            if (acts(told, x)) sum += entry.getValue() * (x * told[1] - (100 - x) * told[0]);
        }
        return (int) lowest(sum, weights() * 100)[what];
    }

    int count(int what) {
        switch (what) {
            case 0: return now.prior;
            case 1: return now.receivers.size();
            case 2: return now.split.size();
            case 3: return (int) weights();
            case 4:
                long[] mean = meanValue();
                long[] most = mostMean(now.prior);
                return mean[0] * most[1] == most[0] * mean[1] ? 1 : 0;
            case 5: return pad.length();
            case 6: return history.size();
            default: return BAD_VALUE;
        }
    }

    int envelope(int posterior, int what) {
        if (badPosterior(posterior) || what < 0 || what > 1) return BAD_VALUE;
        long[] most = mostMean(posterior);
        return (int) (what == 0 ? most[0] + 10000000 : most[1]);
    }

    int best(int posterior, int what) {
        if (badPosterior(posterior) || what < 0 || what > 3) return BAD_VALUE;
        return bestSplit(posterior)[what];
    }

    int mostGained(int what) {
        if (what < 0 || what > 2) return BAD_VALUE;
        long[] found = null;
        for (int x = 1; x <= 99; x++) {
            long[] most = mostMean(x);
            long[] difference = lowest(most[0] - valueAt(x) * most[1], most[1]);
            if (found == null || difference[0] * found[2] > found[1] * difference[1]) {
                found = new long[] {x, difference[0], difference[1]};
            }
        }
        return (int) found[what];
    }

    int put(long characters) {
        StringBuilder more = new StringBuilder();
        boolean started = false;
        for (int shift = 56; shift >= 0; shift -= 8) {
            int code = (int) (characters >> shift) & 255;
            if (code == 0 && !started) continue;
            started = true;
            if (code < 33 || code > 126) return BAD_VALUE;
            more.append((char) code);
        }
        if (!started) return BAD_VALUE;
        if (pad.length() + more.length() > 80) return TOO_MANY;
        pad += more;
        return pad.length();
    }

    int wipe() {
        int had = pad.length();
        pad = "";
        return had;
    }

    int fault() {
        if (TEXT.matcher(pad).matches()) return NONE;
        for (int end = 1; end <= pad.length(); end++) {
            Matcher matcher = TEXT.matcher(pad.substring(0, end));
            if (!matcher.matches() && !matcher.hitEnd()) return end - 1;
        }
        return pad.length();
    }

    int carryOut() {
        if (!TEXT.matcher(pad).matches()) return BAD_TEXT;
        Kept before = now.copy();
        int done = 0;
        for (String order : pad.split(";")) {
            if (obey(order) < 0) break;
            done++;
        }
        pad = "";
        return changed(before, done);
    }

    private int obey(String order) {
        String rest = order.substring(1);
        String[] told = rest.split("[,$!@]");
        switch (order.charAt(0)) {
            case 'p': return doPrior(Integer.parseInt(rest));
            case '-': return doDismiss(Integer.parseInt(rest));
            case 'b': return doAdopt();
            case 'r': return doHire(Integer.parseInt(told[0]), Integer.parseInt(told[1]), Integer.parseInt(told[2]),
                    told.length > 3 ? Integer.parseInt(told[3]) : 0);
            default: return doSplit(told);
        }
    }

    private int doSplit(String[] told) {
        TreeMap<Integer, Long> next = new TreeMap<>();
        for (int i = 0; i < told.length; i += 2) {
            long weight = Long.parseLong(told[i]);
            int posterior = Integer.parseInt(told[i + 1]);
            if (weight < 1 || weight > 999 || badPosterior(posterior)) return BAD_VALUE;
            next.merge(posterior, weight, Long::sum);
        }
        TreeMap<Integer, Long> previous = now.split;
        int answer = become(next);
        if (answer < 0) return answer;
        long sum = 0;
        for (Map.Entry<Integer, Long> entry : next.entrySet()) sum += entry.getValue() * (entry.getKey() - now.prior);
        if (sum != 0) {
            now.split = previous;
            return NOT_POSSIBLE;
        }
        return answer;
    }

    int undo() {
        if (history.isEmpty()) return NOT_POSSIBLE;
        now = history.removeLast();
        return history.size();
    }

    int save(int slot) {
        if (slot != 0 && slot != 1) return BAD_VALUE;
        slots[slot] = now.copy();
        return now.prior;
    }

    int restore(int slot) {
        if (slot != 0 && slot != 1) return BAD_VALUE;
        if (slots[slot] == null) return NOT_POSSIBLE;
        Kept before = now;
        now = slots[slot].copy();
        return changed(before, now.prior);
    }

    private boolean noReceiver(int receiver) {
        return receiver < 0 || receiver >= now.receivers.size();
    }

    private boolean noPart(int part) {
        return part < 0 || part >= now.split.size();
    }

    private static boolean badPosterior(int posterior) {
        return posterior < 0 || posterior > 100;
    }

    private int posteriorOf(int part) {
        return new ArrayList<>(now.split.keySet()).get(part);
    }

    private long weights() {
        long sum = 0;
        for (long weight : now.split.values()) sum += weight;
        return sum;
    }

    private static boolean acts(int[] receiver, int posterior) {
        return posterior * receiver[1] >= (100 - posterior) * receiver[0];
    }

    private int valueAt(int posterior) {
        int value = 0;
        int acting = 0;
        for (int[] receiver : now.receivers) {
            if (acts(receiver, posterior)) {
                value += receiver[2];
                acting++;
            }
        }
        if (acting > 0 && acting == now.receivers.size()) {
            for (int[] receiver : now.receivers) value += receiver[3];
        }
        return value;
    }

    private int[] allValues() {
        int[] values = new int[101];
        for (int x = 0; x <= 100; x++) values[x] = valueAt(x);
        return values;
    }

    private long[] mostMean(int x) {
        int[] values = allValues();
        long[] most = {values[x], 1};
        for (int lower = 0; lower < x; lower++) {
            for (int upper = x + 1; upper <= 100; upper++) {
                long above = (long) (upper - x) * values[lower] + (long) (x - lower) * values[upper];
                if (above * most[1] > most[0] * (upper - lower)) most = new long[] {above, upper - lower};
            }
        }
        return lowest(most[0], most[1]);
    }

    private int[] bestSplit(int x) {
        int[] values = allValues();
        long[] most = mostMean(x);
        for (int lower = 0; lower < x; lower++) {
            for (int upper = x + 1; upper <= 100; upper++) {
                long above = (long) (upper - x) * values[lower] + (long) (x - lower) * values[upper];
                if (above * most[1] == most[0] * (upper - lower)) {
                    int divisor = (int) gcd(upper - x, x - lower);
                    return new int[] {lower, upper, (upper - x) / divisor, (x - lower) / divisor};
                }
            }
        }
        return new int[] {x, x, 1, 0};
    }

    private static long[] lowest(long above, long below) {
        long divisor = gcd(Math.abs(above), below);
        return new long[] {above / divisor, below / divisor};
    }

    private static long gcd(long one, long two) {
        return two == 0 ? one : gcd(two, one % two);
    }
}
