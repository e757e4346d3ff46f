/** "Refused, and nothing changes, the first of these: BAD, STATE, FULL": every refusal of promises 2 to 22. */
public final class RefusalEdgesTest {
    private static final Due due = new Due();
    private static final int MIN = Integer.MIN_VALUE;
    private static final int MAX = Integer.MAX_VALUE;
    // 32 and 64 wrap around to 0 where a shift is made before the number is looked at.
    private static final int[] NO_BIT = {-1, 2, 3, 32, 33, 256, MIN, MAX};
    private static final int[] NO_SENTENCE = {-1, -8, 8, 9, 32, 64, 256, MIN, MIN + 1, MAX};
    private static final int[] NO_SET = {-1, -255, -256, 256, 257, 511, 65536, MIN, MAX};
    private static final int[] NO_RULE = {-1, -10, 10, 11, 32, 64, 256, MIN, MAX};

    public static void main(String[] args) {
        badType();
        fullType();
        fault();
        badRule();
        badTurn();
        badAssume();
        badSet();
        badStands();
        badHolds();
        badKnown();
        badWhy();
        badHangs();
        badExplains();
        badIdle();
        stateIdle();
        badAlike();
        stateAlike();
        badMark();
        badKeep();
        badBack();
        stateBack();
        badCount();
        due.end();
    }

    private static void everywhere(String what, Twins.Call call, long want) {
        for (States.Named state : States.ALL) {
            Twins.unchanged(due, what + " with " + state.name(), state.maker(), call, want);
        }
    }

    private static void bad(String what, Twins.Call call) {
        everywhere(what, call, HoldUnless.BAD);
    }

    // ---- promises 2 to 7

    private static void badType() {
        due.sentence("The lowest n (1 .. 8) bytes .. BAD; FULL: BAD, also where the text is full");
        for (int n : new int[] {0, -1, -8, 9, 10, 16, 32, 256, 257, MIN, MAX}) {
            bad("type(0x613b, " + n + ")", x -> x.type(0x613bL, n));
        }
    }

    private static void fullType() {
        due.sentence("a text (300 bytes at most) .. FULL");
        for (int n = 1; n <= 8; n++) {
            int bytes = n;
            for (int room = 0; room < n; room++) {
                String filler = " ".repeat(296 - room) + "c;d;";
                Twins.Maker maker = () -> {
                    HoldUnless x = Due.told("a;b;");
                    Due.typeAll(x, filler);
                    return x;
                };
                Twins.unchanged(due, "type(.., " + n + ") with room for " + room, maker,
                        x -> x.type(0x3b3b3b3b3b3b3b3bL, bytes), HoldUnless.FULL);
            }
        }
    }

    private static void fault() {
        due.sentence("-10 less FAULT: nothing changes");
        Twins.unchanged(due, "rules()", States::faultyText, HoldUnless::rules, -10 - 17);
        String[] texts = {"?", "a", "a;b;c;d;e;f;g;h;a;b;c;", "never;", "may a;may b", "h if a unless;"};
        int[] places = {0, 1, 20, 5, 11, 13};
        for (int i = 0; i < texts.length; i++) {
            String text = texts[i];
            Twins.Maker maker = () -> {
                HoldUnless x = States.tenRules();
                x.clear();
                Due.typeAll(x, text);
                return x;
            };
            Twins.unchanged(due, "rules() of " + text, maker, HoldUnless::rules, -10 - places[i]);
        }
    }

    private static void badRule() {
        due.sentence("Of a RULE: 0 .. 1 .. 2 .. 3 .. BAD");
        for (int k : NO_RULE) {
            bad("rule(" + k + ", 3)", x -> x.rule(k, 3));
        }
        for (int what : new int[] {-1, 4, 5, 32, 256, MIN, MAX}) {
            bad("rule(0, " + what + ")", x -> x.rule(0, what));
        }
        bad("rule of the one behind the last", x -> x.rule(x.count(0), 0));
    }

    private static void badTurn() {
        due.sentence("A RULE becomes ON (1) or OFF (0): what it was. BAD");
        for (int k : NO_RULE) {
            bad("turn(" + k + ", 0)", x -> x.turn(k, 0));
            bad("turn(" + k + ", 1)", x -> x.turn(k, 1));
        }
        for (int on : NO_BIT) {
            bad("turn(0, " + on + ")", x -> x.turn(0, on));
            bad("turn(last, " + on + ")", x -> x.turn(x.count(0) - 1, on));
        }
        bad("turn of the one behind the last to off", x -> x.turn(x.count(0), 0));
        bad("turn of the one behind the last to on", x -> x.turn(x.count(0), 1));
    }

    private static void badAssume() {
        due.sentence("A SENTENCE is ASSUMED (1) or not (0): what it was. BAD");
        for (int a : NO_SENTENCE) {
            bad("assume(" + a + ", 1)", x -> x.assume(a, 1));
            bad("assume(" + a + ", 0)", x -> x.assume(a, 0));
        }
        for (int is : NO_BIT) {
            for (int a = 0; a < 8; a++) {
                int one = a;
                bad("assume(" + a + ", " + is + ")", x -> x.assume(one, is));
            }
        }
    }

    // ---- promises 8 to 14

    private static void badSet() {
        due.sentence("The i-th SET .. BAD (i below 0)");
        for (int i : new int[] {-1, -2, -9, -256, MIN, MIN + 1}) {
            bad("set(" + i + ")", x -> x.set(i));
        }
    }

    private static void badStands() {
        due.sentence("Whether a SET (0 .. 255) STANDS: 1, 0. BAD");
        for (int set : NO_SET) {
            bad("stands(" + set + ")", x -> x.stands(set));
        }
    }

    private static void badHolds() {
        due.sentence("IN SOME (what = 0), IN ALL (1 ..): bits. BAD");
        for (int what : NO_BIT) {
            bad("holds(" + what + ")", x -> x.holds(what));
        }
    }

    private static void badKnown() {
        due.sentence("1 SURE, 0 RULED OUT, NONE OPEN. BAD");
        for (int a : NO_SENTENCE) {
            bad("known(" + a + ")", x -> x.known(a));
        }
    }

    private static void badWhy() {
        due.sentence("WHY: the round (what = 0), the RULE (1; NONE) .. BAD (i below 0)");
        for (int i : new int[] {-1, -2, -256, MIN}) {
            bad("why(" + i + ", 0, 0)", x -> x.why(i, 0, 0));
            bad("why(" + i + ", 6, 1)", x -> x.why(i, 6, 1));
        }
        // BAD comes ahead of NONE: also of a set that there is not.
        for (int i : new int[] {0, 1, 255, 256, MAX}) {
            for (int a : NO_SENTENCE) {
                bad("why(" + i + ", " + a + ", 0)", x -> x.why(i, a, 0));
            }
            for (int what : NO_BIT) {
                bad("why(" + i + ", 6, " + what + ")", x -> x.why(i, 6, what));
            }
        }
    }

    private static void badHangs() {
        due.sentence("HANGS (what = 0), TANGLED (1): bits. BAD");
        for (int what : NO_BIT) {
            bad("hangs(" + what + ")", x -> x.hangs(what));
        }
    }

    // ---- promises 15 to 18

    private static void badExplains() {
        due.sentence("EXPLAINS, as bits; NONE. BAD (some 0 .. 255)");
        for (int a : NO_SENTENCE) {
            bad("explains(" + a + ", 255)", x -> x.explains(a, 255));
            bad("explains(" + a + ", 0)", x -> x.explains(a, 0));
        }
        for (int some : NO_SET) {
            bad("explains(0, " + some + ")", x -> x.explains(0, some));
            bad("explains(7, " + some + ")", x -> x.explains(7, some));
        }
    }

    private static void badIdle() {
        due.sentence("IDLE: 1, 0. BAD");
        for (int k : NO_RULE) {
            bad("idle(" + k + ")", x -> x.idle(k));
        }
        bad("idle of the one behind the last", x -> x.idle(x.count(0)));
    }

    private static void stateIdle() {
        due.sentence("IDLE: 1, 0. BAD; STATE: it is OFF");
        for (int k : new int[] {0, 3, 9}) {
            Twins.unchanged(due, "idle(" + k + ")", States::tenRules, x -> x.idle(k), HoldUnless.STATE);
        }
        Twins.unchanged(due, "idle(0)", States::fullText, x -> x.idle(0), HoldUnless.STATE);
        Twins.unchanged(due, "idle(1)", States::fullText, x -> x.idle(1), HoldUnless.STATE);
        Twins.unchanged(due, "idle(2)", States::noSet, x -> x.idle(2), HoldUnless.STATE);
    }

    private static void badAlike() {
        due.sentence("ALIKE: 1, 0. BAD (ahead of STATE)");
        for (int image : NO_BIT) {
            bad("alike(" + image + ")", x -> x.alike(image));
        }
    }

    private static void stateAlike() {
        due.sentence("ALIKE: 1, 0. BAD; STATE: that IMAGE was not kept");
        notKept("alike", (x, image) -> x.alike(image));
    }

    // ---- promises 19 to 22

    private static void badMark() {
        due.sentence("MARK. NO: BAD");
        for (int kind = 0; kind <= 5; kind++) {
            int good = kind;
            for (int k : NO_RULE) {
                everywhere("mark(" + kind + ", " + k + ")", x -> x.mark(good, k), HoldUnless.NO);
            }
            everywhere("mark(" + kind + ", the one behind the last)", x -> x.mark(good, x.count(0)), HoldUnless.NO);
        }
        for (int kind : new int[] {-1, -6, 6, 7, 32, 256, MIN, MAX}) {
            everywhere("mark(" + kind + ", 0)", x -> x.mark(kind, 0), HoldUnless.NO);
            everywhere("mark(" + kind + ", last)", x -> x.mark(kind, x.count(0) - 1), HoldUnless.NO);
        }
    }

    private static void badKeep() {
        due.sentence("An IMAGE is kept: how many RULES are ON. BAD");
        for (int image : NO_BIT) {
            bad("keep(" + image + ")", x -> x.keep(image));
        }
    }

    private static void badBack() {
        due.sentence("All of that becomes as an IMAGE has it .. BAD (ahead of STATE)");
        for (int image : NO_BIT) {
            bad("back(" + image + ")", x -> x.back(image));
        }
    }

    private static void stateBack() {
        due.sentence("All of that becomes as an IMAGE has it .. STATE: none was kept");
        notKept("back", (x, image) -> x.back(image));
    }

    private interface ImageCall {
        long ask(HoldUnless x, int image);
    }

    private static void notKept(String name, ImageCall call) {
        refusedImage(name, HoldUnless::new, call, 0);
        refusedImage(name, HoldUnless::new, call, 1);
        refusedImage(name, States::tenRules, call, 1);
        refusedImage(name, States::faultyText, call, 0);
        Twins.Maker readAnew = () -> {
            HoldUnless x = States.fullText();
            x.rules();
            x.assume(2, 1);
            return x;
        };
        refusedImage(name, readAnew, call, 0);
        refusedImage(name, readAnew, call, 1);
    }

    private static void refusedImage(String name, Twins.Maker maker, ImageCall call, int image) {
        Twins.unchanged(due, name + "(" + image + ")", maker, x -> call.ask(x, image), HoldUnless.STATE);
    }

    private static void badCount() {
        due.sentence("0 RULES .. 4 bytes of THE TEXT. BAD");
        for (int what : new int[] {-1, 5, 6, 32, 256, MIN, MAX}) {
            bad("count(" + what + ")", x -> x.count(what));
        }
    }
}
