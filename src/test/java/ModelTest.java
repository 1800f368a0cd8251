/** Long runs of calls, each with the answer of the model; the same runs every time. */
public final class ModelTest {
    private static final int RUNS = 800;
    private static final int MOST_AT_ONCE = 64;
    private static final int[] WILD = {Integer.MIN_VALUE, -100, -99, -1, 0, 1, 2, 5, 6, 99, 100, 101, Integer.MAX_VALUE};

    private final Due due = new Due();
    private long seed;
    private Used x;
    private Model model;

    public static void main(String[] args) {
        ModelTest test = new ModelTest();
        for (int run = 0; run < RUNS && test.due.allRight(); run++) {
            test.run(run);
        }
        test.due.end();
    }

    private void run(int run) {
        seed = 7919L * run + 1;
        x = new Used();
        model = new Model();
        while (x.calls() < Used.MOST_CALLS - MOST_AT_ONCE && due.allRight()) {
            due.about("run " + run + ", after " + x.calls() + " calls");
            callOne(run % 3);
        }
    }

    private int below(int bound) {
        seed = seed * 6364136223846793005L + 1442695040888963407L;
        return (int) ((seed >>> 33) % bound);
    }

    private int from(int least, int most) {
        return below(25) == 0 ? WILD[below(WILD.length)] : least + below(most - least + 1);
    }

    /** Some runs are about splits, some about texts, some about all alike. */
    private void callOne(int bent) {
        int kind = below(30);
        if (bent == 1 && kind < 12) {
            kind = 4 + below(3);
        } else if (bent == 2 && kind < 8) {
            putText();
            return;
        }
        switch (kind) {
            case 0: prior(from(1, 99)); break;
            case 1: case 2: hire(from(1, 99), from(1, 99), from(0, 99), from(-99, 99)); break;
            case 3: dismiss(from(0, 4)); break;
            case 4: case 5: refine(); break;
            case 6: join(from(0, 4)); break;
            case 7: adopt(); break;
            case 8: restore(from(0, 1)); break;
            case 9: due.is("undo()", x.undo(), model.undo()); break;
            case 10: save(from(0, 1)); break;
            case 11: case 12: putText(); break;
            case 13: putWild(); break;
            case 14: due.is("wipe()", x.wipe(), model.wipe()); break;
            default: ask(kind);
        }
    }

    private void ask(int kind) {
        int posterior = from(0, 100);
        int receiver = from(0, 4);
        int what = from(0, 6);
        switch (kind) {
            case 15: case 16: due.is("receiver(" + receiver + ", " + what + ")", x.receiver(receiver, what), model.receiver(receiver, what)); break;
            case 17: case 18: case 19: due.is("part(" + receiver + ", " + what + ")", x.part(receiver, what), model.part(receiver, what)); break;
            case 20: due.is("value(" + posterior + ")", x.value(posterior), model.value(posterior)); break;
            case 21: due.is("mean(" + what % 2 + ")", x.mean(what % 2), model.mean(what % 2)); break;
            case 22: due.is("worth(" + receiver + ", " + what % 3 + ")", x.worth(receiver, what % 3), model.worth(receiver, what % 3)); break;
            case 23: case 24: due.is("count(" + what + ")", x.count(what), model.count(what)); break;
            case 25: due.is("envelope(" + posterior + ", " + what % 3 + ")", x.envelope(posterior, what % 3), model.envelope(posterior, what % 3)); break;
            case 26: case 27: due.is("best(" + posterior + ", " + what % 5 + ")", x.best(posterior, what % 5), model.best(posterior, what % 5)); break;
            case 28: if (below(10) == 0) mostGained(what % 4); break;
            default: due.is("mean(" + what + ")", x.mean(what), model.mean(what));
        }
    }

    private void prior(int share) {
        due.is("prior(" + share + ")", x.prior(share), model.prior(share));
    }

    private void hire(int loss, int gain, int pay, int bonus) {
        due.is("hire(" + loss + ", " + gain + ", " + pay + ", " + bonus + ")", x.hire(loss, gain, pay, bonus), model.hire(loss, gain, pay, bonus));
    }

    private void dismiss(int receiver) {
        due.is("dismiss(" + receiver + ")", x.dismiss(receiver), model.dismiss(receiver));
    }

    private void refine() {
        int part = below(Math.max(1, model.count(2)));
        int posterior = model.part(part, 1);
        int lower = below(3) == 0 ? posterior - below(4) : from(0, posterior);
        int upper = below(3) == 0 ? posterior + below(4) : from(posterior, 100);
        if (below(25) == 0) {
            part = from(0, 6);
        }
        due.is("refine(" + part + ", " + lower + ", " + upper + ")", x.refine(part, lower, upper), model.refine(part, lower, upper));
        sameParts();
    }

    private void join(int part) {
        due.is("join(" + part + ")", x.join(part), model.join(part));
        sameParts();
    }

    private void adopt() {
        due.is("adopt()", x.adopt(), model.adopt());
        sameParts();
    }

    private void sameParts() {
        for (int part = 0; part < model.count(2); part++) {
            for (int what = 0; what < 4; what++) {
                due.is("part(" + part + ", " + what + ")", x.part(part, what), model.part(part, what));
            }
        }
        due.is("count(2)", x.count(2), model.count(2));
        due.is("count(3)", x.count(3), model.count(3));
        due.is("count(4)", x.count(4), model.count(4));
    }

    private void mostGained(int what) {
        due.is("mostGained(" + what + ")", x.mostGained(what), model.mostGained(what));
    }

    private void save(int slot) {
        due.is("save(" + slot + ")", x.save(slot), model.save(slot));
    }

    private void restore(int slot) {
        due.is("restore(" + slot + ")", x.restore(slot), model.restore(slot));
    }

    private void putWild() {
        long characters = 0;
        for (int i = below(9); i >= 0; i--) {
            characters = characters << 8 | (below(8) == 0 ? below(256) : 33 + below(94));
        }
        due.is("put(" + characters + ")", x.put(characters), model.put(characters));
    }

    private void putText() {
        String text = someText();
        for (int from = 0; from < text.length(); ) {
            int to = Math.min(text.length(), from + 1 + below(8));
            long characters = Used.packed(text.substring(from, to));
            due.is("put(" + characters + ")", x.put(characters), model.put(characters));
            from = to;
        }
        due.is("fault() of " + text, x.fault(), model.fault());
        if (below(4) > 0) {
            due.is("carryOut() of " + text, x.carryOut(), model.carryOut());
            sameParts();
            due.is("count(6)", x.count(6), model.count(6));
        }
        if (below(4) > 0) {
            due.is("wipe()", x.wipe(), model.wipe());
        }
    }

    private String someText() {
        StringBuilder text = new StringBuilder(someOrder());
        for (int more = below(6); more > 0; more--) {
            text.append(';').append(someOrder());
        }
        if (below(3) == 0) {
            String signs = "0123459rpsb-,;@$!x";
            int at = below(text.length());
            char sign = signs.charAt(below(signs.length()));
            switch (below(3)) {
                case 0: text.setCharAt(at, sign); break;
                case 1: text.insert(at, sign); break;
                default: text.deleteCharAt(at);
            }
        }
        return text.toString();
    }

    private String someOrder() {
        switch (below(7)) {
            case 0: return "b";
            case 1: return "-" + below(5);
            case 2: return "p" + someNumber(99);
            case 3: case 4: return someSplit();
            default: return "r" + someNumber(99) + "," + someNumber(99) + "$" + someNumber(99)
                    + (below(2) == 0 ? "" : (below(2) == 0 ? "!" : "!-") + someNumber(99));
        }
    }

    /** Mostly one that averages to the prior: the weights of a pair are those of the way to the other one. */
    private String someSplit() {
        int prior = model.count(0);
        StringBuilder text = new StringBuilder("s");
        int pairs = 1 + below(3);
        int factor = below(4) == 0 ? 9 : 1;
        for (int pair = 0; pair < pairs; pair++) {
            int lower = below(prior);
            int upper = prior + 1 + below(100 - prior);
            if (pair > 0) {
                text.append(',');
            }
            text.append((upper - prior) * factor).append('@').append(lower).append(',');
            text.append((prior - lower) * factor).append('@').append(upper);
        }
        if (below(5) == 0) {
            text.append(',').append(someNumber(999)).append('@').append(below(2) == 0 ? prior : someNumber(100));
        }
        return text.toString();
    }

    private int someNumber(int most) {
        return below(12) == 0 ? (below(2) == 0 ? 0 : below(1000)) : 1 + below(most);
    }
}
