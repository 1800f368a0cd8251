import java.util.Arrays;

/** An object of the class, and its calls: what it answers after 512 of them is free, so no test may ask it for more. */
final class Used {
    static final int MOST_CALLS = 512;

    private final SplitBeliefs beliefs = new SplitBeliefs();
    private int calls = 0;
    private String last = "new SplitBeliefs()";

    private SplitBeliefs call(String name, long... arguments) {
        if (calls == MOST_CALLS) {
            throw new IllegalStateException("a test calls one object more than " + MOST_CALLS + " times");
        }
        calls++;
        last = name + Arrays.toString(arguments).replace('[', '(').replace(']', ')');
        return beliefs;
    }

    int calls() {
        return calls;
    }

    /** The last call, as it is written. */
    String last() {
        return last;
    }

    int prior(int share) {
        return call("prior", share).prior(share);
    }

    int hire(int loss, int gain, int pay, int bonus) {
        return call("hire", loss, gain, pay, bonus).hire(loss, gain, pay, bonus);
    }

    int dismiss(int receiver) {
        return call("dismiss", receiver).dismiss(receiver);
    }

    int refine(int part, int lower, int upper) {
        return call("refine", part, lower, upper).refine(part, lower, upper);
    }

    int join(int part) {
        return call("join", part).join(part);
    }

    int adopt() {
        return call("adopt").adopt();
    }

    int receiver(int receiver, int what) {
        return call("receiver", receiver, what).receiver(receiver, what);
    }

    int part(int part, int what) {
        return call("part", part, what).part(part, what);
    }

    int value(int posterior) {
        return call("value", posterior).value(posterior);
    }

    int mean(int what) {
        return call("mean", what).mean(what);
    }

    int worth(int receiver, int what) {
        return call("worth", receiver, what).worth(receiver, what);
    }

    int count(int what) {
        return call("count", what).count(what);
    }

    int envelope(int posterior, int what) {
        return call("envelope", posterior, what).envelope(posterior, what);
    }

    int best(int posterior, int what) {
        return call("best", posterior, what).best(posterior, what);
    }

    int mostGained(int what) {
        return call("mostGained", what).mostGained(what);
    }

    int put(long characters) {
        return call("put", characters).put(characters);
    }

    int wipe() {
        return call("wipe").wipe();
    }

    int fault() {
        return call("fault").fault();
    }

    int carryOut() {
        return call("carryOut").carryOut();
    }

    int undo() {
        return call("undo").undo();
    }

    int save(int slot) {
        return call("save", slot).save(slot);
    }

    int restore(int slot) {
        return call("restore", slot).restore(slot);
    }

    /** The number by which put() takes the text (1 to 8 characters). */
    static long packed(String text) {
        long characters = 0;
        for (int i = 0; i < text.length(); i++) {
            characters = characters << 8 | text.charAt(i);
        }
        return characters;
    }

    /** Puts a text of any length, and returns the last answer. */
    int putAll(String text) {
        int answer = 0;
        for (int from = 0; from < text.length(); from += 8) {
            answer = put(packed(text.substring(from, Math.min(from + 8, text.length()))));
        }
        return answer;
    }
}
