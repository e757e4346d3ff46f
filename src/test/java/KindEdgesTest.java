/** The edges of kinds and of the trace, and of how long an object is used: promises 19 and 23, "What it is". */
public final class KindEdgesTest {
    private static final Due due = new Due();
    private static final long[] ADDS = {1, 11, 101, 1011, 10101, 100001};

    public static void main(String[] args) {
        bodyOfNoneAndOfAll();
        oneInBothCountsTwice();
        lawIsTwice();
        habitWithoutUnless();
        decreeAndItsNumber();
        customIfOn();
        oathOfABan();
        traceByEachKind();
        traceOfNothing();
        traceStays();
        traceOverRules();
        usedFor512Calls();
        changedFor512Calls();
        readAgainAndAgain();
        objectsApart();
        due.end();
    }

    private static void marks(HoldUnless x, int k, int... want) {
        for (int kind = 0; kind < want.length; kind++) {
            due.is("mark(" + kind + ", " + k + ")", x.mark(kind, k), want[kind]);
        }
    }

    // ---- promise 19

    private static void bodyOfNoneAndOfAll() {
        due.sentence("RULE how many SENTENCES its BODY has: none, one, eight, sixteen");
        HoldUnless x = Due.told("a;a if h;a unless h;a if a b c d e f g h;a if a b c d e f g h unless a b c d e f g h;");
        int[] want = {0, 1, 1, 8, 16};
        for (int k = 0; k < 5; k++) {
            marks(x, k, want[k]);
        }
    }

    private static void oneInBothCountsTwice() {
        due.sentence("RULE .. (one in both counts twice)");
        HoldUnless x = Due.told("a if b unless b;a if b unless c;a if b b unless b b;");
        for (int k = 0; k < 3; k++) {
            marks(x, k, 2);
        }
    }

    private static void lawIsTwice() {
        due.sentence("LAW up times 2");
        HoldUnless x = Due.told("a;a if b;a if a b c d e f g h unless a b c d e f g h;");
        due.is("mark(1, 0)", x.mark(1, 0), 0);
        due.is("mark(1, 1)", x.mark(1, 1), 2);
        due.is("mark(1, 2)", x.mark(1, 2), 32);
    }

    private static void habitWithoutUnless() {
        due.sentence("HABIT up less how many of them are UNLESS");
        HoldUnless x = Due.told("a;a if b c;a unless b c;a if b unless b c d e f g h;never unless a b c d e f g h;");
        int[] want = {0, 2, 0, 1, 0};
        for (int k = 0; k < 5; k++) {
            due.is("mark(2, " + k + ")", x.mark(2, k), want[k]);
        }
    }

    private static void decreeAndItsNumber() {
        due.sentence("DECREE up, and its number: of the first RULE 0, of the tenth 9");
        HoldUnless x = Due.told("a;b;may a;c;d;e;f;g;h;a if b;never if a unless a b;");
        due.is("mark(3, 0)", x.mark(3, 0), 0);
        due.is("mark(3, 1)", x.mark(3, 1), 1);
        due.is("mark(3, 2): may has no number", x.mark(3, 2), 2);
        due.is("mark(3, 8)", x.mark(3, 8), 2 + 8);
        due.is("mark(3, 9)", x.mark(3, 9), 6 + 9);
    }

    private static void customIfOn() {
        due.sentence("CUSTOM up, and 1, if it is ON");
        HoldUnless x = Due.told("a if b c unless d;h;");
        due.is("mark(4, 0)", x.mark(4, 0), 3);
        due.is("mark(4, 1)", x.mark(4, 1), 1);
        x.turn(0, 0);
        due.is("mark(4, 0), off", x.mark(4, 0), 2);
        due.is("mark(4, 1), the other one off", x.mark(4, 1), 1);
        x.turn(0, 1);
        due.is("mark(4, 0), on again", x.mark(4, 0), 3);
        due.sentence("only CUSTOM asks whether it is ON");
        x = Due.told("d if a b unless b c e;");
        marks(x, 0, 5, 10, 2, 10, 3, 8);
        x.turn(0, 0);
        marks(x, 0, 5, 10, 2, 10, 2, 8);
    }

    private static void oathOfABan() {
        due.sentence("OATH up, and its HEAD (a BAN: 8)");
        HoldUnless x = Due.told("a;h;never if a;never if a b unless a;b if c;");
        int[] want = {0, 7, 9, 11, 2};
        for (int k = 0; k < 5; k++) {
            due.is("mark(5, " + k + ")", x.mark(5, k), want[k]);
        }
        due.sentence("MARK of a RULE as if of a KIND: of a BAN, too");
        marks(x, 3, 3, 6, 2, 9, 3, 11);
    }

    // ---- promise 23

    private static void traceByEachKind() {
        due.sentence("(numbers in brackets come to THE TRACE as often as mark() asks that body)");
        for (int kind = 0; kind < 6; kind++) {
            HoldUnless x = Due.told("never if a unless b;");
            due.is("trace() at first", x.trace(), 0);
            x.mark(kind, 0);
            due.is("trace() after kind " + kind, x.trace(), ADDS[kind]);
            due.is("trace() again", x.trace(), ADDS[kind]);
            x.mark(kind, 0);
            due.is("trace() after kind " + kind + " twice", x.trace(), 2 * ADDS[kind]);
        }
    }

    private static void traceOfNothing() {
        due.sentence("MARK. NO: BAD: and nothing comes to THE TRACE");
        HoldUnless x = Due.told("a;");
        for (int kind = -1; kind <= 6; kind++) {
            due.is("mark(" + kind + ", 1)", x.mark(kind, 1), HoldUnless.NO);
            due.is("mark(" + kind + ", -1)", x.mark(kind, -1), HoldUnless.NO);
        }
        due.is("mark(6, 0)", x.mark(6, 0), HoldUnless.NO);
        due.is("mark(-1, 0)", x.mark(-1, 0), HoldUnless.NO);
        due.is("trace()", x.trace(), 0);
    }

    private static void traceStays() {
        due.sentence("THE TRACE: no other call than mark() comes to it");
        HoldUnless x = Due.told("a;b if a;may c;");
        x.mark(4, 1);
        x.keep(0);
        x.turn(0, 0);
        x.assume(3, 1);
        x.idle(1);
        x.givesUp();
        x.explains(0, 255);
        x.why(0, 0, 0);
        x.alike(0);
        x.back(0);
        x.type(0x613b, 2);
        due.is("trace()", x.trace(), 10101);
        x.clear();
        due.is("trace() after clear()", x.trace(), 10101);
    }

    /** No sentence takes the trace back: it is not among what is read anew, nor in an image. */
    private static void traceOverRules() {
        due.sentence("Nothing is promised beyond the answers and state changes described above");
        HoldUnless x = Due.told("a if b unless c;");
        x.mark(2, 0);
        due.is("rules() of another text", Due.read(x, "never if a;"), 1);
        due.is("trace() after rules()", x.trace(), 101);
        x.mark(5, 0);
        due.is("trace() goes on from there", x.trace(), 100102);
        due.is("rules() with a fault", Due.read(x, "a if"), -14);
        due.is("trace() after a fault", x.trace(), 100102);
        x.clear();
        due.is("rules() of no text", x.rules(), 0);
        due.is("trace() without rules", x.trace(), 100102);
        due.sentence("IMAGES 0, 1 keep which RULES are ON, and what is ASSUMED; nothing else");
        x = Due.told("a;");
        x.mark(0, 0);
        x.keep(0);
        x.mark(1, 0);
        x.back(0);
        due.is("trace() after back(0)", x.trace(), 12);
    }

    // ---- what it is

    private static void usedFor512Calls() {
        due.sentence("An object is used for at most 512 calls");
        HoldUnless x = new HoldUnless();
        x.type(0x61206966_20623bL, 7);
        x.rules();
        for (int i = 0; i < 509; i++) {
            due.is("mark(5, 0), call " + (3 + i), x.mark(5, 0), 1);
        }
        due.is("trace(), the 512th call", x.trace(), 509L * 100001);

        x = new HoldUnless();
        for (int call = 1; call <= 512; call++) {
            int want = call * 8 <= 296 ? call * 8 : HoldUnless.FULL;
            due.is("type, call " + call, x.type(0x2020202020202020L, 8), want);
        }
    }

    private static void changedFor512Calls() {
        due.sentence("An object is used for at most 512 calls: turned and assumed in each of them");
        HoldUnless x = new HoldUnless();
        x.type(0x6120756e6c657373L, 8);
        x.type(0x20623bL, 3);
        due.is("rules()", x.rules(), 1);
        for (int i = 0; i < 127; i++) {
            due.is("turn(0, ..)", x.turn(0, i % 2), (i + 1) % 2);
            due.is("assume(1, ..)", x.assume(1, 1 - i % 2), i % 2);
            due.is("keep", x.keep(i % 2), i % 2);
            due.is("set(0)", x.set(0), i % 2 == 1 ? 1 : 2);
        }
        due.is("back(0), the 512th call", x.back(0), 0);
    }

    private static void readAgainAndAgain() {
        due.sentence("An object is used for at most 512 calls: read anew in each of them");
        HoldUnless x = new HoldUnless();
        for (int i = 0; i < 102; i++) {
            // "a;b;" and "c;?" by turns: a fault leaves the rules that were read ahead of it.
            boolean good = i % 2 == 0;
            due.is("type", x.type(good ? 0x613b623bL : 0x633b3fL, good ? 4 : 3), good ? 4 : 3);
            due.is("rules()", x.rules(), good ? 2 : -12);
            due.is("count(0)", x.count(0), 2);
            due.is("set(0)", x.set(0), 3);
            due.is("clear()", x.clear(), good ? 0 : 3);
        }
        due.is("count(4)", x.count(4), 0);
        due.is("rule(1, 0), the 512th call", x.rule(1, 0), 1);
    }

    private static void objectsApart() {
        due.sentence("A new object: no RULES, whatever was told to another one");
        HoldUnless x = Due.told("a;may b;");
        x.assume(2, 1);
        x.keep(0);
        x.mark(0, 0);
        x.type(32, 1);
        HoldUnless y = new HoldUnless();
        for (int what = 0; what <= 4; what++) {
            due.is("count(" + what + ")", y.count(what), 0);
        }
        due.is("trace()", y.trace(), 0);
        due.is("back(0)", y.back(0), HoldUnless.STATE);
        Due.read(y, "d;e;");
        due.is("count(0) of the first", x.count(0), 1);
        due.is("rule(0, 0) of the first", x.rule(0, 0), 0);
        due.is("count(4) of the first", x.count(4), 1);
    }
}
