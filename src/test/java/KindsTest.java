/** Promises 19 to 23: mark, keep, back, count, trace. */
public final class KindsTest {
    private static final Due due = new Due();

    public static void main(String[] args) {
        mark();
        trace();
        images();
        count();
        wrongInputs();
        due.end();
    }

    private static void mark() {
        // Rule 0: body of 2 + 3 with b in both; rule 1: a ban; rule 2: a fact.
        HoldUnless x = Due.told("d if a b unless b c e;never unless a;h;");
        int[][] want = {
            {5, 10, 2, 10, 3, 8},
            {1, 2, 0, 3, 1, 9},
            {0, 0, 0, 2, 1, 7},
        };
        for (int k = 0; k < 3; k++) {
            for (int kind = 0; kind < 6; kind++) {
                due.is("mark(" + kind + ", " + k + ")", x.mark(kind, k), want[k][kind]);
            }
        }
        x.turn(0, 0);
        for (int kind = 0; kind < 6; kind++) {
            int off = kind == 4 ? 2 : want[0][kind];
            due.is("mark(" + kind + ", 0), off", x.mark(kind, 0), off);
        }
    }

    private static void trace() {
        HoldUnless x = Due.told("a if b unless c;");
        long[] adds = {1, 11, 101, 1011, 10101, 100001};
        long sum = 0;
        for (int round = 0; round < 3; round++) {
            for (int kind = 0; kind < 6; kind++) {
                x.mark(kind, 0);
                sum += adds[kind];
                due.is("trace()", x.trace(), sum);
            }
        }
        x.mark(6, 0);
        x.mark(-1, 0);
        x.mark(0, 1);
        due.is("trace() after refusals", x.trace(), sum);
        x.keep(0);
        x.mark(0, 0);
        x.back(0);
        due.is("trace() is in no image", x.trace(), sum + 1);
        x.rules();
        due.is("trace() after rules()", x.trace(), sum + 1);
    }

    private static void images() {
        HoldUnless x = Due.told("a;b;c;may d;");
        x.turn(1, 0);
        x.assume(7, 1);
        due.is("keep(0)", x.keep(0), 2);
        x.turn(1, 1);
        x.assume(7, 0);
        x.assume(6, 1);
        due.is("keep(1)", x.keep(1), 3);
        x.turn(0, 0);
        x.turn(2, 0);
        Due.typeAll(x, "xyz");
        due.is("back(0)", x.back(0), 2);
        due.is("count(1)", x.count(1), 2);
        due.is("rule(0, 3)", x.rule(0, 3), 1);
        due.is("rule(1, 3)", x.rule(1, 3), 0);
        due.is("count(3)", x.count(3), Due.bits("h"));
        due.is("the text is in no image", x.count(4), 3);
        due.is("back(1)", x.back(1), 3);
        due.is("count(3)", x.count(3), Due.bits("g"));
        x.turn(0, 0);
        due.is("keep(1) over it", x.keep(1), 2);
        x.turn(0, 1);
        due.is("back(1)", x.back(1), 2);
        due.is("rule(0, 3)", x.rule(0, 3), 0);
        due.is("back(0) once more", x.back(0), 2);
        due.is("rule(1, 3)", x.rule(1, 3), 0);
        x.clear();
        due.is("back(0) after clear()", x.back(0), 2);
        x.rules();
        due.is("back(0) after rules()", x.back(0), HoldUnless.STATE);
        due.is("keep(0), no rules", x.keep(0), 0);
        due.is("back(0)", x.back(0), 0);
        due.is("back(1)", x.back(1), HoldUnless.STATE);
    }

    private static void count() {
        HoldUnless x = Due.told("a;b;never if c;may h a;");
        x.turn(0, 0);
        x.assume(1, 1);
        x.assume(5, 1);
        x.type(0x6162, 2);
        due.is("count(0)", x.count(0), 3);
        due.is("count(1)", x.count(1), 2);
        due.is("count(2)", x.count(2), Due.bits("ah"));
        due.is("count(3)", x.count(3), Due.bits("bf"));
        due.is("count(4)", x.count(4), 2);
    }

    private static void wrongInputs() {
        HoldUnless x = Due.told("a;");
        for (int wrong : new int[] {-1, 6, Integer.MIN_VALUE, Integer.MAX_VALUE}) {
            due.is("mark(" + wrong + ", 0)", x.mark(wrong, 0), HoldUnless.NO);
            due.is("mark(0, " + wrong + ")", x.mark(0, wrong), HoldUnless.NO);
        }
        due.is("mark(0, 1)", x.mark(0, 1), HoldUnless.NO);
        for (int wrong : new int[] {-1, 2, Integer.MIN_VALUE, Integer.MAX_VALUE}) {
            due.is("keep(" + wrong + ")", x.keep(wrong), HoldUnless.BAD);
            due.is("back(" + wrong + ")", x.back(wrong), HoldUnless.BAD);
        }
        for (int wrong : new int[] {-1, 5, Integer.MIN_VALUE, Integer.MAX_VALUE}) {
            due.is("count(" + wrong + ")", x.count(wrong), HoldUnless.BAD);
        }
        due.is("trace()", x.trace(), 0);
    }
}
