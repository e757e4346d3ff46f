/**
 * "Nothing is promised beyond the answers and state changes described above": calls that only ask change nothing,
 * and those that change something change just that.
 */
public final class AskingTest {
    private static final Due due = new Due();

    public static void main(String[] args) {
        for (States.Named state : States.ALL) {
            askingForRules(state);
            askingForSets(state);
            askingForChanges(state);
            askingForCounts(state);
            markComesToTheTrace(state);
            turnedAndBack(state);
            assumedAndBack(state);
            keptAndBack(state);
            typedAndCleared(state);
            readAnew(state);
        }
        due.end();
    }

    private static void asks(States.Named state, String what, Twins.Call call) {
        Twins.onlyAsks(due, what + " with " + state.name(), state.maker(), call);
    }

    private static void same(States.Named state, String what, Twins.Call call, Twins.Call other) {
        Twins.comesToTheSame(due, what + " with " + state.name(), state.maker(), call, other);
    }

    // ---- calls that only ask

    private static void askingForRules(States.Named state) {
        due.sentence("Of a RULE: 0 its HEAD (8: a BAN), 1 IF, 2 UNLESS (bits), 3 whether it is ON");
        for (int k = 0; k < 10; k++) {
            for (int what = 0; what <= 3; what++) {
                int rule = k;
                int part = what;
                asks(state, "rule(" + k + ", " + what + ")", x -> x.rule(rule, part));
            }
        }
    }

    private static void askingForSets(States.Named state) {
        due.sentence("ALL SETS that STAND");
        asks(state, "sets()", HoldUnless::sets);
        for (int i : new int[] {0, 1, 2, 255, 256, Integer.MAX_VALUE}) {
            asks(state, "set(" + i + ")", x -> x.set(i));
        }
        for (int set : new int[] {0, 1, 8, 64, 255}) {
            asks(state, "stands(" + set + ")", x -> x.stands(set));
        }
        for (int bit = 0; bit <= 1; bit++) {
            int what = bit;
            asks(state, "holds(" + bit + ")", x -> x.holds(what));
            asks(state, "hangs(" + bit + ")", x -> x.hangs(what));
            for (int a = 0; a < 8; a++) {
                int sentence = a;
                asks(state, "why(0, " + a + ", " + bit + ")", x -> x.why(0, sentence, what));
                asks(state, "why(1, " + a + ", " + bit + ")", x -> x.why(1, sentence, what));
            }
        }
        for (int a = 0; a < 8; a++) {
            int sentence = a;
            asks(state, "known(" + a + ")", x -> x.known(sentence));
        }
    }

    private static void askingForChanges(States.Named state) {
        due.sentence("EXPLAINS, as bits; GIVES UP, as bits; IDLE: 1, 0; ALIKE: 1, 0");
        for (int a = 0; a < 8; a++) {
            int sentence = a;
            for (int some : new int[] {0, 170, 255}) {
                asks(state, "explains(" + a + ", " + some + ")", x -> x.explains(sentence, some));
            }
        }
        asks(state, "givesUp()", HoldUnless::givesUp);
        for (int k = 0; k < 10; k++) {
            int rule = k;
            asks(state, "idle(" + k + ")", x -> x.idle(rule));
        }
        asks(state, "alike(0)", x -> x.alike(0));
        asks(state, "alike(1)", x -> x.alike(1));
    }

    private static void askingForCounts(States.Named state) {
        due.sentence("0 RULES, 1 those that are ON, 2 MAY (bits), 3 ASSUMED (bits), 4 bytes of THE TEXT; THE TRACE");
        for (int what = 0; what <= 4; what++) {
            int which = what;
            asks(state, "count(" + what + ")", x -> x.count(which));
        }
        asks(state, "trace()", HoldUnless::trace);
    }

    // ---- calls that change something, and just that

    private static void markComesToTheTrace(States.Named state) {
        due.sentence("numbers in brackets come to THE TRACE as often as mark() asks that body");
        int last = state.maker().make().count(0) - 1;
        for (int kind = 0; kind <= 5; kind++) {
            int asked = kind;
            // Whichever rule is asked for, the trace grows alike, and nothing else changes.
            same(state, "mark(" + kind + ", ..)", x -> x.mark(asked, 0), x -> x.mark(asked, last));
        }
    }

    private static void turnedAndBack(States.Named state) {
        due.sentence("A RULE becomes ON (1) or OFF (0)");
        for (int k = 0; k < state.maker().make().count(0); k++) {
            int rule = k;
            same(state, "turn(" + k + ", ..) there and back", x -> x.turn(rule, x.turn(rule, 1 - x.rule(rule, 3))),
                    x -> x.turn(rule, x.rule(rule, 3)));
        }
    }

    private static void assumedAndBack(States.Named state) {
        due.sentence("A SENTENCE is ASSUMED (1) or not (0)");
        for (int a = 0; a < 8; a++) {
            int sentence = a;
            same(state, "assume(" + a + ", ..) there and back",
                    x -> x.assume(sentence, x.assume(sentence, 1 - (x.count(3) >> sentence & 1))),
                    x -> x.assume(sentence, x.count(3) >> sentence & 1));
        }
    }

    private static void keptAndBack(States.Named state) {
        due.sentence("IMAGES 0, 1 keep which RULES are ON, and what is ASSUMED; nothing else");
        for (int image = 0; image <= 1; image++) {
            int kept = image;
            same(state, "keep(" + image + "), back(" + image + ")", x -> x.keep(kept) + x.back(kept), x -> x.keep(kept));
            same(state, "keep(" + image + ") twice", x -> x.keep(kept) + x.keep(kept), x -> x.keep(kept));
        }
        same(state, "keep(0), keep(1) in either order", x -> x.keep(0) + x.keep(1), x -> x.keep(1) + x.keep(0));
    }

    private static void typedAndCleared(States.Named state) {
        due.sentence("THE TEXT is empty: how many bytes it had");
        same(state, "type, clear()", x -> x.clear() + Due.typeAll(x, "h if a;?") + x.clear(), HoldUnless::clear);
        same(state, "clear() twice", x -> x.clear() + x.clear(), HoldUnless::clear);
    }

    private static void readAnew(States.Named state) {
        due.sentence("(Read anew: all are ON, nothing is ASSUMED, IMAGES are gone.)");
        String text = "a unless b;b unless a;never if h;may c;";
        Twins.Call marked = x -> Due.read(x, text) + x.mark(3, 0);
        Twins.Call changed = x -> {
            Due.read(x, text);
            long mark = x.mark(3, 1);
            x.turn(0, 0);
            x.assume(5, 1);
            x.keep(0);
            x.keep(1);
            return mark + Due.read(x, text);
        };
        same(state, "the same text read again", marked, changed);
    }
}
