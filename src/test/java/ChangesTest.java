/** Promises 15 to 18: explains, givesUp, idle, alike. */
public final class ChangesTest {
    private static final Due due = new Due();

    public static void main(String[] args) {
        explains();
        givesUp();
        idle();
        alike();
        wrongInputs();
        due.end();
    }

    private static void explained(HoldUnless x, char sentence, String some, String want) {
        int bits = want == null ? HoldUnless.NONE : Due.bits(want);
        due.is("explains(" + sentence + ", " + some + ")", x.explains(sentence - 'a', Due.bits(some)), bits);
    }

    private static void explains() {
        HoldUnless x = Due.told("a if b c;a if d e f;a if g h b c;");
        explained(x, 'a', "abcdefgh", "a");
        explained(x, 'a', "bcdefgh", "bc");
        explained(x, 'a', "bdefgh", "def");
        explained(x, 'a', "bdegh", null);
        explained(x, 'a', "", null);
        explained(x, 'b', "a", null);
        explained(x, 'b', "b", "b");
        x.assume(1, 1);
        explained(x, 'a', "bcdefgh", "c");
        explained(x, 'b', "", "");
        explained(x, 'a', "bdefgh", "def");
        x.turn(1, 0);
        explained(x, 'a', "bdefgh", null);
        due.is("count(3)", x.count(3), Due.bits("b"));

        // Four are one too many.
        x = Due.told("a if b c d e;");
        explained(x, 'a', "bcdefgh", null);
        x.assume(4, 1);
        explained(x, 'a', "bcdefgh", "bcd");

        // Of several with the same number, the least bits.
        x = Due.told("a if d;a if c;a if h b;");
        explained(x, 'a', "bcdh", "c");
        explained(x, 'a', "bdh", "d");
        explained(x, 'a', "bh", "bh");

        // A set must stand: one in it must not break a ban, nor take the sentence away.
        x = Due.told("a if b unless c;never if b unless d;");
        explained(x, 'a', "bcd", "bd");
        explained(x, 'a', "bc", null);
        x.assume(2, 1);
        explained(x, 'a', "bcdefgh", null);
        explained(x, 'a', "a", "a");

        // More facts may mend what no set stands with.
        x = Due.told("a unless a;b;");
        explained(x, 'b', "", null);
        explained(x, 'b', "bcdefgh", null);
        explained(x, 'b', "abcdefgh", "a");

        // A sentence in some set is enough, and that it may hold by itself.
        x = Due.told("may a;b unless a;");
        explained(x, 'a', "abcdefgh", "");
        explained(x, 'b', "abcdefgh", "");
    }

    private static void givesUp(String text, int want) {
        due.is("givesUp() of " + text, Due.told(text).givesUp(), want);
    }

    private static void givesUp() {
        givesUp("", 0);
        givesUp("a;", 0);
        givesUp("a;b;c;d;e;f;g;h;", 0);
        givesUp("a unless a;", 1);
        givesUp("b;a unless a;", 2);
        givesUp("a;never if a;", 1);
        givesUp("never if a;a;", 1);
        givesUp("a;a;never if a;", 4);
        givesUp("a;a;never if a;never if a;", 3);
        givesUp("a;a;a;never if a;never if a;never if a;", 7);
        givesUp("a;a;a;a;never if a;never if a;never if a;never if a;", HoldUnless.NONE);
        givesUp("a;b;c;never if a;never if b;never if c;", 7);
        givesUp("a;b;c;d;never if a;never if b;never if c;never if d;", HoldUnless.NONE);
        givesUp("a unless a;b unless b;c unless c;", 7);
        givesUp("a unless a;b unless b;c unless c;d unless d;", HoldUnless.NONE);
        givesUp("a unless b;b unless c;c unless a;", 1);
        givesUp("may b;never unless a;a if b;", 0);
        givesUp("never unless a;never unless b;never unless a b;", 7);

        HoldUnless x = Due.told("a;never if a;b;never if b;c;never if c;d;never if d;");
        due.is("givesUp()", x.givesUp(), HoldUnless.NONE);
        x.turn(3, 0);
        due.is("givesUp(), a ban off", x.givesUp(), 1 | 16 | 64);
        x.assume(2, 1);
        due.is("givesUp(), c assumed", x.givesUp(), 1 | 32 | 64);
        due.is("count(1)", x.count(1), 7);
    }

    private static void idle() {
        HoldUnless x = Due.told("a;a;b if a;never if c;c if d;d if c;");
        int[] want = {1, 1, 0, 1, 1, 1};
        for (int k = 0; k < want.length; k++) {
            due.is("idle(" + k + ")", x.idle(k), want[k]);
        }
        x.turn(0, 0);
        due.is("idle(0), off", x.idle(0), HoldUnless.STATE);
        due.is("idle(1), the other one off", x.idle(1), 0);
        x.assume(0, 1);
        due.is("idle(1), assumed", x.idle(1), 1);
        due.is("count(1)", x.count(1), 5);
        due.is("idle(6)", x.idle(6), HoldUnless.BAD);
        x = Due.told("never if a;may a;a unless a;");
        due.is("idle(0) of a ban", x.idle(0), 0);
        due.is("idle(1)", x.idle(1), 0);
        x = Due.told("never if a b c d e f g h;may a b c d e f g h;");
        due.is("idle(0), all eight banned", x.idle(0), 0);
        x = Due.told("a unless a;b unless b;");
        due.is("idle(0), no set with or without", x.idle(0), 1);
    }

    private static void alike() {
        HoldUnless x = Due.told("a;a;b if a;c if d;");
        due.is("alike(0), not kept", x.alike(0), HoldUnless.STATE);
        x.keep(0);
        due.is("alike(0)", x.alike(0), 1);
        due.is("alike(1), not kept", x.alike(1), HoldUnless.STATE);
        x.turn(0, 0);
        due.is("alike(0), one of two facts off", x.alike(0), 1);
        x.turn(1, 0);
        due.is("alike(0), both off", x.alike(0), 0);
        x.assume(0, 1);
        due.is("alike(0), assumed instead", x.alike(0), 1);
        x.keep(1);
        x.assume(3, 1);
        due.is("alike(1)", x.alike(1), 0);
        due.is("alike(0)", x.alike(0), 0);
        x.assume(3, 0);
        due.is("alike(1)", x.alike(1), 1);
        due.is("count(1)", x.count(1), 2);

        // As many sets, yet not the same ones; and sets of which one image has but a part.
        x = Due.told("may a;b if a;");
        x.keep(0);
        x.turn(0, 0);
        due.is("alike(0), another set", x.alike(0), 0);
        x.turn(0, 1);
        x.assume(0, 1);
        due.is("alike(0), fewer sets", x.alike(0), 0);
    }

    private static void wrongInputs() {
        HoldUnless x = Due.told("a;");
        for (int wrong : new int[] {-1, 8, Integer.MIN_VALUE, Integer.MAX_VALUE}) {
            due.is("explains(" + wrong + ", 255)", x.explains(wrong, 255), HoldUnless.BAD);
            due.is("idle(" + wrong + ")", x.idle(wrong), HoldUnless.BAD);
        }
        for (int wrong : new int[] {-1, 256, Integer.MIN_VALUE, Integer.MAX_VALUE}) {
            due.is("explains(0, " + wrong + ")", x.explains(0, wrong), HoldUnless.BAD);
        }
        for (int wrong : new int[] {-1, 2, Integer.MIN_VALUE, Integer.MAX_VALUE}) {
            due.is("alike(" + wrong + ")", x.alike(wrong), HoldUnless.BAD);
        }
        x.turn(0, 0);
        due.is("idle(1)", x.idle(1), HoldUnless.BAD);
    }
}
