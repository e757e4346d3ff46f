/** The edges of the fewest changes: promises 15 to 18. */
public final class ChangeEdgesTest {
    private static final Due due = new Due();
    private static final int NONE = HoldUnless.NONE;

    public static void main(String[] args) {
        explainsByNone();
        explainsByOneToThree();
        explainsByFourIsNone();
        explainsByTheFewest();
        explainsByTheLeastBits();
        explainsByItself();
        explainsBySomeAlone();
        explainsBesideAssumedOnes();
        explainsLeavesASetThatStands();
        explainsChangesNothing();
        givesUpNone();
        givesUpOneToThree();
        givesUpFourIsNone();
        givesUpTheFewest();
        givesUpTheLeastBits();
        givesUpRulesThatAreOn();
        givesUpChangesNothing();
        idleOfOnesThatDontCount();
        idleOfOnesThatCount();
        idleWithNoSet();
        idleOfTheLastOfTen();
        idleChangesNothing();
        alikeWithOtherRules();
        alikeByAllSets();
        alikeWithNoSet();
        alikeChangesNothing();
        due.end();
    }

    // ---- promise 15

    private static void explained(HoldUnless x, char sentence, String some, String want) {
        int bits = want == null ? NONE : Due.bits(want);
        due.is("explains(" + sentence + ", " + some + ")", x.explains(sentence - 'a', Due.bits(some)), bits);
    }

    private static void explainsByNone() {
        due.sentence("EXPLAINS: the fewest of these (0 .. 3): 0 where it is in a SET already");
        explained(Due.told("a;"), 'a', "abcdefgh", "");
        explained(Due.told("a;"), 'a', "", "");
        explained(Due.told("may a;"), 'a', "abcdefgh", "");
        explained(Due.told("a unless b;b unless a;"), 'b', "ab", "");
        HoldUnless x = new HoldUnless();
        x.assume(7, 1);
        explained(x, 'h', "abcdefgh", "");
        due.sentence("EXPLAINS: NONE is not 0");
        explained(new HoldUnless(), 'a', "", null);
        explained(new HoldUnless(), 'h', "abcdefg", null);
    }

    private static void explainsByOneToThree() {
        due.sentence("EXPLAINS: the fewest of these (0 .. 3): 1, 2, 3");
        explained(Due.told("a if b;"), 'a', "bcdefgh", "b");
        explained(Due.told("a if b c;"), 'a', "bcdefgh", "bc");
        explained(Due.told("a if b c d;"), 'a', "bcdefgh", "bcd");
        explained(Due.told("a if f g h;"), 'a', "bcdefgh", "fgh");
        explained(Due.told("h if a b c;"), 'h', "abc", "abc");
    }

    private static void explainsByFourIsNone() {
        due.sentence("EXPLAINS: (0 .. 3) .. NONE: four are too many");
        explained(Due.told("a if b c d e;"), 'a', "bcdefgh", null);
        explained(Due.told("a if b c d e f g h;"), 'a', "bcdefgh", null);
        HoldUnless x = Due.told("a if b c d e;");
        x.assume(4, 1);
        explained(x, 'a', "bcdefgh", "bcd");
        x.assume(4, 0);
        explained(x, 'a', "bcdefgh", null);
    }

    private static void explainsByTheFewest() {
        due.sentence("EXPLAINS: the fewest, though others have less bits");
        HoldUnless x = Due.told("a if b c d;a if e f;a if h;");
        explained(x, 'a', "bcdefh", "h");
        explained(x, 'a', "bcdef", "ef");
        explained(x, 'a', "bcde", "bcd");
    }

    private static void explainsByTheLeastBits() {
        due.sentence("EXPLAINS: of several the least bits");
        explained(Due.told("a if h;a if b;a if e;"), 'a', "bcdefgh", "b");
        explained(Due.told("a if h;a if b;a if e;"), 'a', "cdefgh", "e");
        // bh is 130 and fg 96: not the one whose first sentence is less.
        explained(Due.told("a if b h;a if f g;"), 'a', "bcdefgh", "fg");
        explained(Due.told("a if f g h;a if b e h;a if c d h;a if b f g;"), 'a', "bcdefgh", "bfg");
    }

    private static void explainsByItself() {
        due.sentence("(bits; it may be one of these)");
        explained(new HoldUnless(), 'a', "a", "a");
        explained(new HoldUnless(), 'h', "abcdefgh", "h");
        explained(Due.told("a if b;"), 'a', "ab", "a");
        explained(Due.told("h if a;"), 'h', "ah", "a");
        explained(Due.told("a unless a;"), 'a', "a", "a");
    }

    private static void explainsBySomeAlone() {
        due.sentence("by some SENTENCES: by none that is not one of these");
        HoldUnless x = Due.told("a if b;a if c d;");
        explained(x, 'a', "cdefgh", "cd");
        explained(x, 'a', "cefgh", null);
        explained(x, 'a', "b", "b");
        explained(x, 'a', "", null);
    }

    private static void explainsBesideAssumedOnes() {
        due.sentence("that, ASSUMED, too: what is assumed stays so");
        HoldUnless x = Due.told("a if b c;d unless b;");
        x.assume(1, 1);
        explained(x, 'a', "bc", "c");
        explained(x, 'd', "abcefgh", null);
        x.assume(2, 1);
        explained(x, 'a', "bc", "");
        due.is("count(3)", x.count(3), 6);
    }

    private static void explainsLeavesASetThatStands() {
        due.sentence("leave a SET that STANDS with it");
        HoldUnless x = Due.told("a if b;never if b;");
        explained(x, 'a', "b", null);
        explained(x, 'a', "bcd", null);
        x = Due.told("a if b;never if b unless h;");
        explained(x, 'a', "bh", "bh");
        x = Due.told("a;never unless b;");
        explained(x, 'a', "", null);
        explained(x, 'a', "b", "b");
        x = Due.told("a unless b;c if b;");
        explained(x, 'a', "bc", "");
        explained(x, 'c', "bc", "b");
        x.turn(1, 0);
        explained(x, 'c', "bc", "c");
        // The only set there is has all eight.
        explained(Due.told("b;c;d;e;f;g;h;"), 'a', "a", "a");
        explained(Due.told("b;c;d;e;f;g;h if a;a if h;"), 'a', "bcdefgh", "h");
        x = Due.told("a;b unless b;");
        explained(x, 'a', "cdefgh", null);
        explained(x, 'a', "bcdefgh", "b");
        x = Due.told("a;b unless b;c unless c;d unless d;");
        explained(x, 'a', "bcdefgh", "bcd");
        x = Due.told("a;b unless b;c unless c;d unless d;e unless e;");
        explained(x, 'a', "bcdefgh", null);
    }

    private static HoldUnless used() {
        HoldUnless x = Due.told("a if b c d;e unless e;never if e;f if g;g if f;may h;a;a;");
        x.turn(6, 0);
        x.assume(2, 1);
        x.keep(1);
        x.turn(0, 0);
        x.assume(2, 0);
        return x;
    }

    private static void explainsChangesNothing() {
        due.sentence("EXPLAINS: nothing is ASSUMED by it");
        Twins.unchanged(due, "explains(0, 255)", ChangeEdgesTest::used, x -> x.explains(0, 255), NONE);
        Twins.Maker mended = () -> {
            HoldUnless x = used();
            x.turn(1, 0);
            return x;
        };
        Twins.unchanged(due, "explains(5, 64)", mended, x -> x.explains(5, 64), 64);
    }

    // ---- promise 16

    private static void givesUp(String text, int want) {
        due.is("givesUp() of " + text, Due.told(text).givesUp(), want);
    }

    private static void givesUpNone() {
        due.sentence("GIVES UP: the fewest RULES that are ON (0 .. 3): 0 where some SET STANDS");
        due.is("givesUp() without rules", new HoldUnless().givesUp(), 0);
        givesUp("a;b;c;d;e;f;g;h;a;b;", 0);
        givesUp("never if a;", 0);
        givesUp("may a;never unless a;", 0);
    }

    private static void givesUpOneToThree() {
        due.sentence("GIVES UP: the fewest RULES that are ON (0 .. 3): 1, 2, 3");
        givesUp("a unless a;", 1);
        givesUp("a unless a;b unless b;", 3);
        givesUp("a unless a;b unless b;c unless c;", 7);
        givesUp("d;e;f;g;h;d;e;a unless a;b unless b;c unless c;", 7 << 7);
        givesUp("a;b;c;d;e;f;g;h;a;never if a b c;", 2);
        givesUp("a;a;c;d;e;f;g;h;b;never if a b;", 1 << 8);
        givesUp("never unless a;never unless b;never unless c;", 7);
    }

    private static void givesUpFourIsNone() {
        due.sentence("GIVES UP: (0 .. 3) .. NONE: four are too many");
        givesUp("a unless a;b unless b;c unless c;d unless d;", NONE);
        givesUp("never unless a;never unless b;never unless c;never unless d;", NONE);
        givesUp("a;a;a;a;never if a;never if a;never if a;never if a;", NONE);
        givesUp("a unless a;b unless b;c unless c;d unless d;e unless e;f unless f;g unless g;h unless h;"
                + "a unless a;b unless b;", NONE);
        HoldUnless x = Due.told("a unless a;b unless b;c unless c;d unless d;");
        x.assume(0, 1);
        due.is("givesUp(), a assumed", x.givesUp(), 14);
    }

    private static void givesUpTheFewest() {
        due.sentence("GIVES UP: the fewest, though others have less bits");
        givesUp("a;a;never if a;", 4);
        givesUp("a;a;a;never if a;never if a;", 24);
        givesUp("a;b;c;d;e;f;g;h;never if a;never if a b;", 1);
        givesUp("a;b;c;d;e;f;g;a;never if a;", 1 << 8);
    }

    private static void givesUpTheLeastBits() {
        due.sentence("GIVES UP: of several the least bits (by RULES)");
        givesUp("a;never if a;", 1);
        givesUp("never if a;a;", 1);
        givesUp("a unless b;b unless c;c unless a;", 1);
        givesUp("a;b;never if a;never if b;", 3);
        // Rules 0 and 1 are 3; 0 and 4 are 17, 1 and 5 are 34, 4 and 5 are 48.
        givesUp("a;b;c;d;never if b;never if a;", 3);
        givesUp("never if a;never if b;c;d;a;b;", 3);
        givesUp("a;never if a;h;h;never if h;", 17);
    }

    private static void givesUpRulesThatAreOn() {
        due.sentence("GIVES UP: RULES that are ON that must be OFF");
        HoldUnless x = Due.told("a;never if a;b;never if b;");
        due.is("givesUp()", x.givesUp(), 5);
        x.turn(0, 0);
        due.is("givesUp(), rule 0 off", x.givesUp(), 4);
        x.turn(2, 0);
        due.is("givesUp(), rule 2 off", x.givesUp(), 0);
        x.assume(0, 1);
        due.is("givesUp(), a assumed: what is assumed can't be given up", x.givesUp(), 2);
        x.assume(1, 1);
        due.is("givesUp(), b assumed", x.givesUp(), 10);
    }

    private static void givesUpChangesNothing() {
        due.sentence("GIVES UP: no RULE becomes OFF by it");
        Twins.unchanged(due, "givesUp()", ChangeEdgesTest::used, HoldUnless::givesUp, 2);
    }

    // ---- promise 17

    private static void idles(HoldUnless x, int k, int want) {
        due.is("idle(" + k + ")", x.idle(k), want);
    }

    private static void idleOfOnesThatDontCount() {
        due.sentence("IDLE: a RULE that is ON without which just the same SETS STAND: 1");
        HoldUnless x = Due.told("a;a;b if c;never if d;e if e;f if g unless g;");
        for (int k = 0; k < 6; k++) {
            idles(x, k, 1);
        }
        x.turn(0, 0);
        idles(x, 1, 0);
        x.assume(0, 1);
        idles(x, 1, 1);
        idles(Due.told("may a;a if b;b if a;"), 0, 1);
    }

    private static void idleOfOnesThatCount() {
        due.sentence("IDLE: a RULE that is ON without which just the same SETS STAND: 0");
        idles(Due.told("a;"), 0, 0);
        idles(Due.told("may a;never if a;"), 0, 0);
        idles(Due.told("a unless a;"), 0, 0);
        // As many sets without it, but other ones.
        idles(Due.told("may a;b if a;"), 0, 0);
        // All sets but the last one, or the first one, are the same.
        idles(Due.told("never if a b c d e f g h;may a b c d e f g h;"), 0, 0);
        idles(Due.told("never unless a b c d e f g h;may a b c d e f g h;"), 0, 0);
    }

    private static void idleWithNoSet() {
        due.sentence("IDLE: just the same SETS: also none, with it and without");
        HoldUnless x = Due.told("a unless a;b unless b;c;");
        for (int k = 0; k < 3; k++) {
            idles(x, k, 1);
        }
        x.turn(1, 0);
        idles(x, 0, 0);
        idles(x, 2, 1);
    }

    private static void idleOfTheLastOfTen() {
        due.sentence("IDLE: BAD; STATE: it is OFF");
        HoldUnless x = Due.told("a;b;c;d;e;f;g;h;never if a;h;");
        idles(x, 9, 1);
        idles(x, 10, HoldUnless.BAD);
        idles(x, -1, HoldUnless.BAD);
        x.turn(9, 0);
        idles(x, 9, HoldUnless.STATE);
        x.turn(9, 1);
        idles(x, 9, 1);
    }

    private static void idleChangesNothing() {
        due.sentence("IDLE: the RULE stays ON");
        Twins.unchanged(due, "idle(1)", ChangeEdgesTest::used, x -> x.idle(1), 0);
        Twins.unchanged(due, "idle(2)", ChangeEdgesTest::used, x -> x.idle(2), 1);
    }

    // ---- promise 18

    private static void alikeWithOtherRules() {
        due.sentence("ALIKE: whether with its RULES ON and ASSUMED ones just the same SETS STAND as now: 1");
        HoldUnless x = Due.told("a;a;b if a;");
        x.keep(0);
        due.is("alike(0) at once", x.alike(0), 1);
        x.turn(0, 0);
        due.is("alike(0), other rules", x.alike(0), 1);
        x.turn(1, 0);
        x.turn(2, 0);
        x.assume(0, 1);
        x.assume(1, 1);
        due.is("alike(0), assumed in place of rules", x.alike(0), 1);
        x.keep(1);
        due.is("alike(1)", x.alike(1), 1);
    }

    private static void alikeByAllSets() {
        due.sentence("ALIKE: just the same SETS: 0 if one is other, or one more, or one fewer");
        HoldUnless x = Due.told("may a;b if a;never if a;");
        x.turn(1, 0);
        x.keep(0);
        x.turn(1, 1);
        due.is("alike(0), fewer now", x.alike(0), 0);
        x.keep(1);
        x.turn(1, 0);
        due.is("alike(1), more now", x.alike(1), 0);
        x.turn(0, 0);
        due.is("alike(0), as many", x.alike(0), 0);
        x.turn(0, 1);
        due.is("alike(0), as it was", x.alike(0), 1);
        x.assume(7, 1);
        due.is("alike(0), one assumed", x.alike(0), 0);
    }

    private static void alikeWithNoSet() {
        due.sentence("ALIKE: just the same SETS: also none, then and now");
        HoldUnless x = Due.told("a unless a;b unless b;");
        x.turn(0, 0);
        x.keep(0);
        x.turn(0, 1);
        x.turn(1, 0);
        due.is("alike(0)", x.alike(0), 1);
        x.turn(0, 0);
        due.is("alike(0), a set now", x.alike(0), 0);
        x = new HoldUnless();
        x.keep(1);
        due.is("alike(1) without rules", x.alike(1), 1);
        x.assume(0, 1);
        due.is("alike(1), one assumed", x.alike(1), 0);
    }

    private static void alikeChangesNothing() {
        due.sentence("ALIKE: nothing becomes as the IMAGE has it");
        Twins.Maker apart = () -> {
            HoldUnless x = used();
            x.keep(0);
            x.turn(1, 0);
            x.assume(6, 1);
            return x;
        };
        Twins.unchanged(due, "alike(0)", apart, x -> x.alike(0), 0);
        Twins.unchanged(due, "alike(1)", apart, x -> x.alike(1), 0);
    }
}
