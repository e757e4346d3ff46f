import java.util.Random;

/** All promises: long runs of drawn calls, right and wrong ones, with the model's answers as due. */
public final class RandomRunsTest {
    private static final int RUNS = 120;
    private static final int CALLS = 512;
    private static final String[] WORDS =
            {"if", "unless", "never", "may", ";", "a", "b", "c", "d", "h", "i", "iff", "A", "?", "unlessa", "\u00ff"};

    private final Due due;
    private final Random random;
    private final int run;
    private final HoldUnless x = new HoldUnless();
    private final Model model = new Model();
    private int calls;

    private RandomRunsTest(Due due, int run) {
        this.due = due;
        this.run = run;
        this.random = new Random(run);
    }

    public static void main(String[] args) {
        Due due = new Due();
        for (int run = 0; run < RUNS; run++) {
            RandomRunsTest one = new RandomRunsTest(due, run);
            while (one.calls < CALLS) {
                one.step();
            }
        }
        due.end();
    }

    private void step() {
        if (random.nextInt(40) == 0) {
            tell();
        } else {
            call(random.nextInt(23));
        }
    }

    private void is(String call, long got, long want) {
        calls++;
        due.is("run " + run + ", call " + calls + ": " + call, got, want);
    }

    // ---- texts

    private void tell() {
        // An emptied text most of the time; else the new one goes on after what a fault left.
        if (random.nextInt(5) != 0) {
            is("clear()", x.clear(), model.clear());
        }
        String text = drawText();
        if (random.nextInt(3) == 0) {
            text = spoil(text);
        }
        int from = 0;
        while (from < text.length()) {
            int n = Math.min(random.nextInt(8) == 0 ? 1 + random.nextInt(8) : 8, text.length() - from);
            long v = random.nextLong();
            for (int i = 0; i < n; i++) {
                v = v << 8 | text.charAt(from + i);
            }
            is("type(" + v + ", " + n + ")", x.type(v, n), model.type(v, n));
            from += n;
        }
        is("rules() of " + text, x.rules(), model.rules());
    }

    private String drawText() {
        StringBuilder text = new StringBuilder();
        int letters = 2 + random.nextInt(7);
        int items = random.nextInt(13);
        for (int i = 0; i < items; i++) {
            int kind = random.nextInt(12);
            if (kind == 0) {
                text.append("may").append(someLetters(letters));
            } else {
                boolean ban = kind <= 2;
                text.append(ban ? "never" : String.valueOf((char) ('a' + random.nextInt(letters))));
                int body = ban ? 1 + random.nextInt(3) : random.nextInt(4);
                text.append((body & 1) != 0 ? " if" + someLetters(letters) : "");
                text.append((body & 2) != 0 ? " unless" + someLetters(letters) : "");
            }
            text.append(random.nextInt(4) == 0 ? " ; " : ";");
        }
        return text.toString();
    }

    private String someLetters(int letters) {
        StringBuilder some = new StringBuilder();
        int many = 1 + random.nextInt(random.nextInt(3) + 1);
        for (int i = 0; i < many; i++) {
            some.append(random.nextInt(9) == 0 ? "  " : " ").append((char) ('a' + random.nextInt(letters)));
        }
        return some.toString();
    }

    private String spoil(String text) {
        int at = random.nextInt(text.length() + 1);
        String rest = text.substring(Math.min(text.length(), at + random.nextInt(4)));
        String word = WORDS[random.nextInt(WORDS.length)];
        return text.substring(0, at) + (random.nextBoolean() ? " " + word + " " : word) + rest;
    }

    // ---- calls

    /** A number 0 .. most, or now and then a wrong one. */
    private int upTo(int most) {
        return switch (random.nextInt(40)) {
            case 0 -> -1;
            case 1 -> most + 1;
            case 2 -> random.nextInt();
            default -> random.nextInt(most + 1);
        };
    }

    private void call(int which) {
        int k = upTo(9);
        int a = upTo(7);
        int bit = upTo(1);
        int what = upTo(4);
        int kind = upTo(5);
        int set = upTo(255);
        int i = upTo(random.nextInt(4) == 0 ? 20 : 2);
        switch (which) {
            case 0 -> is("type(" + set + ", " + what + ")", x.type(set, what), model.type(set, what));
            case 1 -> is("clear()", x.clear(), model.clear());
            case 2, 3 -> is("rule(" + k + ", " + what + ")", x.rule(k, what), model.rule(k, what));
            case 4, 5 -> is("turn(" + k + ", " + bit + ")", x.turn(k, bit), model.turn(k, bit));
            case 6 -> is("assume(" + a + ", " + bit + ")", x.assume(a, bit), model.assume(a, bit));
            case 7 -> is("sets()", x.sets(), model.sets());
            case 8 -> is("set(" + i + ")", x.set(i), model.set(i));
            case 9 -> is("stands(" + set + ")", x.stands(set), model.stands(set));
            case 10 -> is("holds(" + bit + ")", x.holds(bit), model.holds(bit));
            case 11 -> is("known(" + a + ")", x.known(a), model.known(a));
            case 12 -> is("why(" + i + ", " + a + ", " + bit + ")", x.why(i, a, bit), model.why(i, a, bit));
            case 13 -> is("hangs(" + bit + ")", x.hangs(bit), model.hangs(bit));
            case 14 -> is("explains(" + a + ", " + set + ")", x.explains(a, set), model.explains(a, set));
            case 15 -> is("givesUp()", x.givesUp(), model.givesUp());
            case 16 -> is("idle(" + k + ")", x.idle(k), model.idle(k));
            case 17 -> is("alike(" + bit + ")", x.alike(bit), model.alike(bit));
            case 18 -> is("mark(" + kind + ", " + k + ")", x.mark(kind, k), model.mark(kind, k));
            case 19 -> is("keep(" + bit + ")", x.keep(bit), model.keep(bit));
            case 20 -> is("back(" + bit + ")", x.back(bit), model.back(bit));
            case 21 -> is("count(" + what + ")", x.count(what), model.count(what));
            default -> is("trace()", x.trace(), model.trace());
        }
    }
}
