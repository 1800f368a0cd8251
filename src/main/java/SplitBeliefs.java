/**
 * Persuasion by signals: a sender splits a prior belief into posteriors, receivers act on them, and the
 * best split lies on the least concave function above the sender's values.
 *
 * <p>All rows are made with the object and used again: a call makes no object.
 */
public final class SplitBeliefs {
    public static final int NO_SUCH = -1, BAD_VALUE = -2, BAD_TEXT = -3, TOO_MANY = -4, NOT_POSSIBLE = -5, NONE = -6;

    private static final int WHOLE = 100;
    private static final int FIRST_PRIOR = 30;
    private static final int SLOTS = 2;

    // Added to answers that could be below 0, so that they are not taken for errors.
    private static final int BONUS_LIFT = 100;
    private static final int VALUE_LIFT = 1000;
    private static final int FRACTION_LIFT = 10000000;

    private final State now;
    private final History history;
    private final State[] slots;
    private final boolean[] saved;
    private final Pad pad;
    private final Mix mix;
    private final Curve curve;
    private final Fraction fraction;
    private final Fraction other;

    public SplitBeliefs() {
        now = new State();
        history = new History();
        slots = new State[SLOTS];
        for (int slot = 0; slot < SLOTS; slot++) {
            slots[slot] = new State();
        }
        saved = new boolean[SLOTS];
        pad = new Pad();
        mix = new Mix();
        curve = new Curve();
        fraction = new Fraction();
        other = new Fraction();
    }

    // ---- changes

    public int prior(int share) {
        history.note(now);
        return recorded(now.movePrior(share));
    }

    public int hire(int loss, int gain, int pay, int bonus) {
        history.note(now);
        return recorded(now.receivers.admit(loss, gain, pay, bonus));
    }

    public int dismiss(int receiver) {
        history.note(now);
        return recorded(now.receivers.remove(receiver));
    }

    public int refine(int part, int lower, int upper) {
        history.note(now);
        return recorded(splitPart(part, lower, upper));
    }

    public int join(int part) {
        history.note(now);
        return recorded(joinWithNext(part));
    }

    public int adopt() {
        history.note(now);
        return recorded(takeBest());
    }

    // ---- what there is

    public int receiver(int receiver, int what) {
        Receivers receivers = now.receivers;
        if (!receivers.has(receiver)) {
            return NO_SUCH;
        }
        switch (what) {
            case 0: return receivers.losses[receiver];
            case 1: return receivers.gains[receiver];
            case 2: return receivers.pays[receiver];
            case 3: return receivers.bonuses[receiver] + BONUS_LIFT;
            case 4: return receivers.leastActing(receiver);
            default: return BAD_VALUE;
        }
    }

    public int part(int part, int what) {
        Split split = now.split;
        if (!split.has(part)) {
            return NO_SUCH;
        }
        switch (what) {
            case 0: return split.weights[part];
            case 1: return split.posteriors[part];
            case 2: return now.receivers.actingAt(split.posteriors[part]);
            case 3: return now.receivers.valueAt(split.posteriors[part]) + VALUE_LIFT;
            default: return BAD_VALUE;
        }
    }

    public int value(int posterior) {
        if (!isPosterior(posterior)) {
            return BAD_VALUE;
        }
        return now.receivers.valueAt(posterior) + VALUE_LIFT;
    }

    public int mean(int what) {
        if (!isHalfOfFraction(what)) {
            return BAD_VALUE;
        }
        now.tellMeanValue(fraction);
        return what == 0 ? fraction.above + FRACTION_LIFT : fraction.below;
    }

    public int worth(int receiver, int what) {
        if (!now.receivers.has(receiver)) {
            return NO_SUCH;
        }
        if (!isHalfOfFraction(what)) {
            return BAD_VALUE;
        }
        now.tellMeanWorth(receiver, fraction);
        return what == 0 ? fraction.above : fraction.below;
    }

    public int count(int what) {
        switch (what) {
            case 0: return now.prior;
            case 1: return now.receivers.number;
            case 2: return now.split.parts;
            case 3: return now.split.weightSum();
            case 4: return meanIsEnvelope() ? 1 : 0;
            case 5: return pad.length;
            case 6: return history.kept;
            default: return BAD_VALUE;
        }
    }

    // ---- envelopes; nothing changes

    public int envelope(int posterior, int what) {
        if (!isPosterior(posterior) || !isHalfOfFraction(what)) {
            return BAD_VALUE;
        }
        aimAt(posterior);
        curve.tellEnvelope(fraction);
        return what == 0 ? fraction.above + FRACTION_LIFT : fraction.below;
    }

    public int best(int posterior, int what) {
        if (!isPosterior(posterior)) {
            return BAD_VALUE;
        }
        aimAt(posterior);
        switch (what) {
            case 0: return curve.lower;
            case 1: return curve.upper;
            case 2: return curve.lowerWeight;
            case 3: return curve.upperWeight;
            default: return BAD_VALUE;
        }
    }

    public int mostGained(int what) {
        if (what < 0 || what > 2) {
            return BAD_VALUE;
        }
        int prior = findMostGained();
        switch (what) {
            case 0: return prior;
            case 1: return fraction.above;
            default: return fraction.below;
        }
    }

    // ---- texts

    public int put(long characters) {
        return pad.append(characters);
    }

    public int wipe() {
        int had = pad.length;
        pad.length = 0;
        return had;
    }

    public int fault() {
        return pad.firstFault();
    }

    public int carryOut() {
        if (pad.firstFault() != NONE) {
            return BAD_TEXT;
        }
        history.note(now);
        int done = obeyAll();
        pad.length = 0;
        return recorded(done);
    }

    // ---- undo, saving

    public int undo() {
        if (history.kept == 0) {
            return NOT_POSSIBLE;
        }
        history.takeBack(now);
        return history.kept;
    }

    public int save(int slot) {
        if (!isSlot(slot)) {
            return BAD_VALUE;
        }
        slots[slot].copyFrom(now);
        saved[slot] = true;
        return now.prior;
    }

    public int restore(int slot) {
        if (!isSlot(slot)) {
            return BAD_VALUE;
        }
        if (!saved[slot]) {
            return NOT_POSSIBLE;
        }
        history.note(now);
        now.copyFrom(slots[slot]);
        return recorded(now.prior);
    }

    private static boolean isPosterior(int share) {
        return share >= 0 && share <= WHOLE;
    }

    private static boolean isHalfOfFraction(int what) {
        return what == 0 || what == 1;
    }

    private static boolean isSlot(int slot) {
        return slot >= 0 && slot < SLOTS;
    }

    /** The state was noted ahead of the change; only now it is known whether the note is kept. */
    private int recorded(int answer) {
        if (answer >= 0) {
            history.keep();
        }
        return answer;
    }

    private int splitPart(int part, int lower, int upper) {
        Split split = now.split;
        if (!split.has(part)) {
            return NO_SUCH;
        }
        int posterior = split.posteriors[part];
        if (lower < 0 || lower > posterior || upper < posterior || upper > WHOLE) {
            return BAD_VALUE;
        }
        if (lower == upper) {
            return split.parts;
        }
        // Times the width, all weights are whole; what is too much of it is divided out again.
        int width = upper - lower;
        int weight = split.weights[part];
        mix.gather(split, width);
        mix.add(posterior, -weight * width);
        mix.add(lower, weight * (upper - posterior));
        mix.add(upper, weight * (posterior - lower));
        return takeMix();
    }

    private int joinWithNext(int part) {
        Split split = now.split;
        if (!split.has(part) || !split.has(part + 1)) {
            return NO_SUCH;
        }
        int lowerWeight = split.weights[part];
        int upperWeight = split.weights[part + 1];
        int lower = split.posteriors[part];
        int upper = split.posteriors[part + 1];
        int weight = lowerWeight + upperWeight;
        int moment = lowerWeight * lower + upperWeight * upper;
        if (weight <= 0 || moment % weight != 0) {
            return NOT_POSSIBLE;
        }
        mix.gather(split, 1);
        mix.add(lower, -lowerWeight);
        mix.add(upper, -upperWeight);
        mix.add(moment / weight, weight);
        return takeMix();
    }

    private int takeBest() {
        curve.draw(now.receivers);
        curve.aim(now.prior);
        mix.clear();
        mix.add(curve.lower, curve.lowerWeight);
        mix.add(curve.upper, curve.upperWeight);
        return takeMix();
    }

    private int takeTold() {
        mix.clear();
        for (int told = 0; told < pad.told; told += 2) {
            int weight = pad.number(told);
            int posterior = pad.number(told + 1);
            if (weight < 1 || weight > Split.MOST_WEIGHT || !isPosterior(posterior)) {
                return BAD_VALUE;
            }
            mix.add(posterior, weight);
        }
        mix.reduce();
        if (mix.fits() && !mix.averagesTo(now.prior)) {
            return NOT_POSSIBLE;
        }
        return takeMix();
    }

    private int takeMix() {
        mix.reduce();
        if (!mix.fits()) {
            return TOO_MANY;
        }
        mix.pourInto(now.split);
        return now.split.parts;
    }

    private void aimAt(int posterior) {
        curve.draw(now.receivers);
        curve.aim(posterior);
    }

    private boolean meanIsEnvelope() {
        now.tellMeanValue(fraction);
        aimAt(now.prior);
        curve.tellEnvelope(other);
        return fraction.above == other.above && fraction.below == other.below;
    }

    /** Leaves the difference in the fraction. */
    private int findMostGained() {
        curve.draw(now.receivers);
        int found = 1;
        fraction.become(0, 1);
        for (int prior = 1; prior < WHOLE; prior++) {
            curve.aim(prior);
            curve.tellGain(prior, other);
            if (other.isAbove(fraction)) {
                found = prior;
                fraction.become(other.above, other.below);
            }
        }
        return found;
    }

    private int obeyAll() {
        int done = 0;
        pad.at = 0;
        while (done < Pad.ROOM && pad.at < pad.length) {
            if (!pad.readNext() || obey() < 0) {
                return done;
            }
            done++;
        }
        return done;
    }

    private int obey() {
        switch (pad.order) {
            case 'r': return now.receivers.admit(pad.number(0), pad.number(1), pad.number(2), pad.number(3));
            case '-': return now.receivers.remove(pad.number(0));
            case 'p': return now.movePrior(pad.number(0));
            case 's': return takeTold();
            case 'b': return takeBest();
            default: return BAD_TEXT;
        }
    }

    private static int commonDivisor(int one, int two) {
        int larger = Math.abs(one);
        int smaller = Math.abs(two);
        // Numbers of 31 bits need fewer than 64 steps.
        for (int step = 0; step < 64 && smaller > 0; step++) {
            int rest = larger % smaller;
            larger = smaller;
            smaller = rest;
        }
        return larger;
    }

    /** A fraction in lowest terms, the number below the line above 0. */
    private static final class Fraction {
        int above = 0;
        int below = 1;

        void become(int newAbove, int newBelow) {
            int divisor = commonDivisor(newAbove, newBelow);
            above = divisor > 1 ? newAbove / divisor : newAbove;
            below = divisor > 1 ? newBelow / divisor : newBelow;
        }

        boolean isAbove(Fraction second) {
            return (long) above * second.below > (long) second.above * below;
        }
    }

    /** Those who act on what they believe, in the order in which they came. */
    private static final class Receivers {
        static final int MOST = 5;
        static final int MOST_TOLD = 99;

        final int[] losses = new int[MOST];
        final int[] gains = new int[MOST];
        final int[] pays = new int[MOST];
        final int[] bonuses = new int[MOST];
        int number = 0;

        void copyFrom(Receivers source) {
            System.arraycopy(source.losses, 0, losses, 0, MOST);
            System.arraycopy(source.gains, 0, gains, 0, MOST);
            System.arraycopy(source.pays, 0, pays, 0, MOST);
            System.arraycopy(source.bonuses, 0, bonuses, 0, MOST);
            number = source.number;
        }

        boolean has(int receiver) {
            return receiver >= 0 && receiver < number;
        }

        int admit(int loss, int gain, int pay, int bonus) {
            if (loss < 1 || loss > MOST_TOLD || gain < 1 || gain > MOST_TOLD) {
                return BAD_VALUE;
            }
            if (pay < 0 || pay > MOST_TOLD || bonus < -MOST_TOLD || bonus > MOST_TOLD) {
                return BAD_VALUE;
            }
            if (number >= MOST) {
                return TOO_MANY;
            }
            losses[number] = loss;
            gains[number] = gain;
            pays[number] = pay;
            bonuses[number] = bonus;
            number++;
            return number - 1;
        }

        int remove(int receiver) {
            if (!has(receiver)) {
                return NO_SUCH;
            }
            number--;
            for (int moved = receiver; moved < number; moved++) {
                losses[moved] = losses[moved + 1];
                gains[moved] = gains[moved + 1];
                pays[moved] = pays[moved + 1];
                bonuses[moved] = bonuses[moved + 1];
            }
            return number;
        }

        boolean acts(int receiver, int posterior) {
            return posterior * gains[receiver] >= (WHOLE - posterior) * losses[receiver];
        }

        int worthAt(int receiver, int posterior) {
            return Math.max(0, posterior * gains[receiver] - (WHOLE - posterior) * losses[receiver]);
        }

        int leastActing(int receiver) {
            int posterior = 0;
            while (posterior < WHOLE && !acts(receiver, posterior)) {
                posterior++;
            }
            return posterior;
        }

        int actingAt(int posterior) {
            int acting = 0;
            for (int receiver = 0; receiver < number; receiver++) {
                if (acts(receiver, posterior)) {
                    acting |= 1 << receiver;
                }
            }
            return acting;
        }

        int valueAt(int posterior) {
            int paid = 0;
            int bonus = 0;
            boolean all = true;
            for (int receiver = 0; receiver < number; receiver++) {
                bonus += bonuses[receiver];
                if (acts(receiver, posterior)) {
                    paid += pays[receiver];
                } else {
                    all = false;
                }
            }
            return all ? paid + bonus : paid;
        }
    }

    /** Weights and posteriors, by rising posteriors, the weights in lowest terms. */
    private static final class Split {
        static final int MOST = 6;
        static final int MOST_WEIGHT = 999;

        final int[] weights = new int[MOST];
        final int[] posteriors = new int[MOST];
        int parts = 0;

        void copyFrom(Split source) {
            System.arraycopy(source.weights, 0, weights, 0, MOST);
            System.arraycopy(source.posteriors, 0, posteriors, 0, MOST);
            parts = source.parts;
        }

        boolean has(int part) {
            return part >= 0 && part < parts;
        }

        void becomeOne(int posterior) {
            parts = 0;
            append(posterior, 1);
        }

        void append(int posterior, int weight) {
            if (parts < MOST) {
                weights[parts] = weight;
                posteriors[parts] = posterior;
                parts++;
            }
        }

        int weightSum() {
            int sum = 0;
            for (int part = 0; part < parts; part++) {
                sum += weights[part];
            }
            return sum;
        }
    }

    /** All that undo, save and restore bring back. */
    private static final class State {
        final Receivers receivers = new Receivers();
        final Split split = new Split();
        int prior = FIRST_PRIOR;

        State() {
            split.becomeOne(FIRST_PRIOR);
        }

        void copyFrom(State source) {
            receivers.copyFrom(source.receivers);
            split.copyFrom(source.split);
            prior = source.prior;
        }

        int movePrior(int share) {
            if (share < 1 || share >= WHOLE) {
                return BAD_VALUE;
            }
            int previous = prior;
            prior = share;
            split.becomeOne(share);
            return previous;
        }

        void tellMeanValue(Fraction told) {
            int sum = 0;
            for (int part = 0; part < split.parts; part++) {
                sum += split.weights[part] * receivers.valueAt(split.posteriors[part]);
            }
            told.become(sum, split.weightSum());
        }

        void tellMeanWorth(int receiver, Fraction told) {
            int sum = 0;
            for (int part = 0; part < split.parts; part++) {
                sum += split.weights[part] * receivers.worthAt(receiver, split.posteriors[part]);
            }
            told.become(sum, split.weightSum() * WHOLE);
        }
    }

    /** Up to six states before changes, and room for the note of a change that may yet fail. */
    private static final class History {
        static final int MOST = 6;
        static final int ROWS = MOST + 1;

        private final State[] rows = new State[ROWS];
        private int next = 0;
        int kept = 0;

        History() {
            for (int row = 0; row < ROWS; row++) {
                rows[row] = new State();
            }
        }

        void note(State state) {
            rows[next].copyFrom(state);
        }

        void keep() {
            next = next + 1 < ROWS ? next + 1 : 0;
            kept = Math.min(kept + 1, MOST);
        }

        void takeBack(State state) {
            if (kept > 0) {
                next = next > 0 ? next - 1 : ROWS - 1;
                kept--;
                state.copyFrom(rows[next]);
            }
        }
    }

    /** Parts that may become the split: in a row by posteriors they are sorted, and equal ones are one. */
    private static final class Mix {
        private final int[] weightAt = new int[WHOLE + 1];

        void clear() {
            for (int posterior = 0; posterior <= WHOLE; posterior++) {
                weightAt[posterior] = 0;
            }
        }

        void gather(Split split, int factor) {
            clear();
            for (int part = 0; part < split.parts; part++) {
                add(split.posteriors[part], split.weights[part] * factor);
            }
        }

        void add(int posterior, int weight) {
            if (isPosterior(posterior)) {
                weightAt[posterior] += weight;
            }
        }

        void reduce() {
            int divisor = 0;
            for (int posterior = 0; posterior <= WHOLE; posterior++) {
                divisor = commonDivisor(weightAt[posterior], divisor);
            }
            if (divisor > 1) {
                for (int posterior = 0; posterior <= WHOLE; posterior++) {
                    weightAt[posterior] /= divisor;
                }
            }
        }

        boolean fits() {
            int parts = 0;
            for (int posterior = 0; posterior <= WHOLE; posterior++) {
                if (weightAt[posterior] > Split.MOST_WEIGHT) {
                    return false;
                }
                if (weightAt[posterior] > 0) {
                    parts++;
                }
            }
            return parts <= Split.MOST;
        }

        boolean averagesTo(int prior) {
            int excess = 0;
            for (int posterior = 0; posterior <= WHOLE; posterior++) {
                excess += weightAt[posterior] * (posterior - prior);
            }
            return excess == 0;
        }

        void pourInto(Split split) {
            split.parts = 0;
            for (int posterior = 0; posterior <= WHOLE; posterior++) {
                if (weightAt[posterior] > 0) {
                    split.append(posterior, weightAt[posterior]);
                }
            }
        }
    }

    /** The values of the sender by posteriors, and the corners of the least concave function above them. */
    private static final class Curve {
        private final int[] values = new int[WHOLE + 1];
        private final int[] corners = new int[WHOLE + 1];
        private int cornerCount = 0;

        int lower = 0;
        int upper = 0;
        int lowerWeight = 1;
        int upperWeight = 0;

        void draw(Receivers receivers) {
            cornerCount = 0;
            for (int posterior = 0; posterior <= WHOLE; posterior++) {
                values[posterior] = receivers.valueAt(posterior);
                while (cornerCount > 1
                        && heightOver(corners[cornerCount - 2], corners[cornerCount - 1], posterior) <= 0) {
                    cornerCount--;
                }
                corners[cornerCount] = posterior;
                cornerCount++;
            }
        }

        /** Above 0 if the middle one lies above the line of the two others, 0 if on it (left < right). */
        private int heightOver(int left, int middle, int right) {
            return (values[middle] - values[left]) * (right - left)
                    - (values[right] - values[left]) * (middle - left);
        }

        /**
         * A split that reaches the envelope keeps to the stretch of the envelope around the posterior: so
         * the least lower posterior is the corner at its left, and the upper one the next that lies on it.
         */
        void aim(int posterior) {
            int corner = 0;
            while (corner < cornerCount - 1 && corners[corner + 1] <= posterior) {
                corner++;
            }
            lower = corners[corner];
            if (lower == posterior || corner >= cornerCount - 1) {
                upper = posterior;
                lowerWeight = 1;
                upperWeight = 0;
                return;
            }
            int right = corners[corner + 1];
            upper = posterior + 1;
            while (upper < right && heightOver(lower, upper, right) != 0) {
                upper++;
            }
            int divisor = Math.max(1, commonDivisor(upper - posterior, posterior - lower));
            lowerWeight = (upper - posterior) / divisor;
            upperWeight = (posterior - lower) / divisor;
        }

        private int valueSum() {
            return lowerWeight * values[lower] + upperWeight * values[upper];
        }

        void tellEnvelope(Fraction told) {
            told.become(valueSum(), lowerWeight + upperWeight);
        }

        void tellGain(int posterior, Fraction told) {
            int weight = lowerWeight + upperWeight;
            told.become(valueSum() - weight * values[posterior], weight);
        }
    }

    /** The text, and a reader of its orders that stops where it cannot go on. */
    private static final class Pad {
        static final int ROOM = 80;
        static final int MOST_PUT = 8;
        static final int SIGN_BITS = 8;
        static final int SIGN_MASK = 255;
        static final int FIRST_SIGN = 33;
        static final int LAST_SIGN = 126;
        static final int MOST_NUMBER = 999;
        static final int MOST_DIGIT = 4;

        private final char[] signs = new char[ROOM];
        private final int[] numbers = new int[2 * Split.MOST];
        int length = 0;
        int at = 0;
        int order = 0;
        int told = 0;

        int append(long characters) {
            long rest = characters;
            int more = 0;
            while (more < MOST_PUT && (rest & SIGN_MASK) != 0) {
                int code = (int) (rest & SIGN_MASK);
                if (code < FIRST_SIGN || code > LAST_SIGN) {
                    return BAD_VALUE;
                }
                rest >>>= SIGN_BITS;
                more++;
            }
            if (more == 0 || rest != 0) {
                return BAD_VALUE;
            }
            if (length + more > ROOM) {
                return TOO_MANY;
            }
            for (int back = 0; back < more; back++) {
                signs[length + more - 1 - back] = (char) ((characters >>> (SIGN_BITS * back)) & SIGN_MASK);
            }
            length += more;
            return length;
        }

        int firstFault() {
            at = 0;
            for (int orders = 0; orders < ROOM; orders++) {
                if (!readNext()) {
                    return at;
                }
                if (at >= length) {
                    return NONE;
                }
            }
            return at;
        }

        int number(int place) {
            return place >= 0 && place < told && place < numbers.length ? numbers[place] : 0;
        }

        /** Reads an order, and the semicolon ahead of it; if it cannot, it stays at the fault. */
        boolean readNext() {
            if (at > 0 && !skip(';')) {
                return false;
            }
            told = 0;
            order = sign();
            switch (order) {
                case 'r': at++; return readHire();
                case '-': at++; return readDigit();
                case 'p': at++; return readNumber();
                case 's': at++; return readParts();
                case 'b': at++; return true;
                default: return false;
            }
        }

        private boolean readHire() {
            if (!(readNumber() && skip(',') && readNumber() && skip('$') && readNumber())) {
                return false;
            }
            if (!skip('!')) {
                return true;
            }
            boolean negative = skip('-');
            if (!readNumber()) {
                return false;
            }
            if (negative && told > 0) {
                numbers[told - 1] = -numbers[told - 1];
            }
            return true;
        }

        private boolean readParts() {
            for (int part = 0; part < Split.MOST; part++) {
                if (!(readNumber() && skip('@') && readNumber())) {
                    return false;
                }
                if (part == Split.MOST - 1 || !skip(',')) {
                    return true;
                }
            }
            return true;
        }

        private boolean readDigit() {
            int digit = sign() - '0';
            if (digit < 0 || digit > MOST_DIGIT) {
                return false;
            }
            at++;
            tell(digit);
            return true;
        }

        /** Ends ahead of a digit that cannot stand; as no number is followed by a digit, that is the fault. */
        private boolean readNumber() {
            if (!isDigit(sign())) {
                return false;
            }
            int number = sign() - '0';
            at++;
            while (at < length && number > 0 && isDigit(sign()) && 10 * number + sign() - '0' <= MOST_NUMBER) {
                number = 10 * number + sign() - '0';
                at++;
            }
            tell(number);
            return true;
        }

        private static boolean isDigit(int sign) {
            return sign >= '0' && sign <= '9';
        }

        private void tell(int number) {
            if (told < numbers.length) {
                numbers[told] = number;
                told++;
            }
        }

        /** 0, which is no character of a text, beyond its end. */
        private int sign() {
            return at >= 0 && at < length ? signs[at] : 0;
        }

        private boolean skip(char wanted) {
            if (sign() != wanted) {
                return false;
            }
            at++;
            return true;
        }
    }
}
