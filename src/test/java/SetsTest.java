/** Promises 8 to 14: sets, set, stands, holds, known, why, hangs. */
public final class SetsTest {
    private static final Due due = new Due();

    public static void main(String[] args) {
        standing();
        bans();
        allSets();
        holds();
        known();
        why();
        hangs();
        wrongInputs();
        due.end();
    }

    /** The sets that stand under a text, each written by its letters. */
    private static void stand(String text, String... sets) {
        HoldUnless x = Due.told(text);
        due.is("sets() of " + text, x.sets(), sets.length);
        boolean[] wanted = new boolean[256];
        for (int i = 0; i < sets.length; i++) {
            due.is("set(" + i + ") of " + text, x.set(i), Due.bits(sets[i]));
            wanted[Due.bits(sets[i])] = true;
        }
        due.is("set(" + sets.length + ") of " + text, x.set(sets.length), HoldUnless.NONE);
        due.is("set(max) of " + text, x.set(Integer.MAX_VALUE), HoldUnless.NONE);
        for (int set = 0; set < 256; set++) {
            due.is("stands(" + set + ") of " + text, x.stands(set), wanted[set] ? 1 : 0);
        }
    }

    private static void standing() {
        stand("", "");
        stand("a;", "a");
        stand("a if b;b if a;", "");
        stand("a unless b;", "a");
        stand("a unless b;b unless a;", "a", "b");
        stand("a unless a;");
        stand("a unless a;a;", "a");
        stand("a unless a;may a;", "a");
        stand("may a;", "", "a");
        stand("may a;b if a;c unless a;", "ab", "c");
        stand("a if b unless b;may b;", "", "b");
        stand("a unless b;b unless c;c unless a;");
        stand("c if a b;a;b;", "abc");
        stand("a;b if a;c if b;d if c;e if d;f if e;g if f;h if g;", "abcdefgh");
        stand("h if g;g if f;f if e;e if d;d if c;c if b;b if a;a;", "abcdefgh");
        stand("a unless b;b unless a;c if a;c if b;", "ac", "bc");
        HoldUnless x = Due.told("a unless b;");
        x.assume(1, 1);
        due.is("set(0), b assumed", x.set(0), Due.bits("b"));
        x.assume(0, 1);
        due.is("set(0), a and b assumed", x.set(0), Due.bits("ab"));
        due.is("sets()", x.sets(), 1);
        due.is("stands(ab)", x.stands(Due.bits("ab")), 1);
        due.is("stands(a)", x.stands(Due.bits("a")), 0);
        due.is("stands(b)", x.stands(Due.bits("b")), 0);
        due.is("stands()", x.stands(0), 0);
    }

    private static void bans() {
        stand("never if a;may a b;", "", "b");
        stand("never unless a;may a b;", "a", "ab");
        stand("never if a unless b;may a b;", "", "b", "ab");
        stand("never if a b;may a b;", "", "a", "b");
        stand("never unless a b;may a b;", "a", "b", "ab");
        stand("never unless a;");
        stand("never if a unless a;may a;", "", "a");
        HoldUnless x = Due.told("never if a;a;");
        due.is("sets()", x.sets(), 0);
        x.turn(0, 0);
        due.is("sets(), the ban off", x.sets(), 1);
        x.turn(0, 1);
        x.turn(1, 0);
        due.is("set(0), the fact off", x.set(0), 0);
        x.assume(0, 1);
        due.is("sets(), assumed and banned", x.sets(), 0);
    }

    private static void allSets() {
        HoldUnless x = Due.told("may a b c d e f g h;");
        due.is("sets()", x.sets(), 256);
        for (int i = 0; i < 256; i++) {
            due.is("set(" + i + ")", x.set(i), i);
        }
        due.is("set(256)", x.set(256), HoldUnless.NONE);
        due.is("holds(0)", x.holds(0), 255);
        due.is("holds(1)", x.holds(1), 0);
    }

    private static void holds() {
        HoldUnless x = Due.told("a unless b;b unless a;c if a;c if b;may d;e if d;");
        due.is("holds(0)", x.holds(0), Due.bits("abcde"));
        due.is("holds(1)", x.holds(1), Due.bits("c"));
        x.assume(1, 1);
        due.is("holds(0), b assumed", x.holds(0), Due.bits("bcde"));
        due.is("holds(1), b assumed", x.holds(1), Due.bits("bc"));
        x = Due.told("a;b;c;d;e;f;g;h;");
        due.is("holds(0), all facts", x.holds(0), 255);
        due.is("holds(1), all facts", x.holds(1), 255);
        x = Due.told("a unless a;");
        due.is("holds(0), no set", x.holds(0), 0);
        due.is("holds(1), no set", x.holds(1), 255);
    }

    /** What is known of a, b, ..: + sure, - ruled out, ? open. */
    private static void knows(String text, String known) {
        HoldUnless x = Due.told(text);
        for (int a = 0; a < 8; a++) {
            char mark = a < known.length() ? known.charAt(a) : '-';
            int want = mark == '+' ? 1 : mark == '-' ? 0 : HoldUnless.NONE;
            due.is("known(" + a + ") of " + text, x.known(a), want);
        }
    }

    private static void known() {
        knows("", "--------");
        knows("a;", "+");
        knows("a unless b;", "+-");
        knows("a unless b;b unless a;", "??");
        knows("a unless b;b unless a;c if a;c if b;", "???");
        knows("a unless a;", "?");
        knows("a if b;b if a;c unless a;", "--+");
        knows("may a;b if a;c unless a;", "???");
        knows("may a;a;b unless a;", "+-");
        knows("a;never if a;", "+");
        knows("may a;never if a;", "?");
        // Each sentence is settled only after the one before it: many rounds of less and of more.
        knows("h unless g;g unless f;f unless e;e unless d;d unless c;c unless b;b unless a;", "-+-+-+-+");
        knows("a unless b;b unless c;c unless d;d unless e;e unless f;f unless g;g unless h;", "+-+-+-+-");
        HoldUnless x = Due.told("a unless b;b unless a;");
        x.assume(0, 1);
        due.is("known(0), assumed", x.known(0), 1);
        due.is("known(1), against one assumed", x.known(1), 0);
        x.assume(2, 1);
        due.is("known(2), assumed without a rule", x.known(2), 1);
        x = Due.told("b if a;c unless b;may d;");
        x.assume(0, 1);
        due.is("known(1), by one assumed", x.known(1), 1);
        due.is("known(2), against it", x.known(2), 0);
        due.is("known(3), may", x.known(3), HoldUnless.NONE);
        x.assume(3, 1);
        due.is("known(3), may and assumed", x.known(3), 1);
        // b is open, so what is assumed must stay in more for c to be open and not ruled out.
        x = Due.told("b unless d;d unless b;c if a b;");
        x.assume(0, 1);
        due.is("known(2), by one assumed and one open", x.known(2), HoldUnless.NONE);
        x = Due.told("a unless b;b unless a;");
        x.turn(0, 0);
        due.is("known(0), its rule off", x.known(0), 0);
        due.is("known(1), the other rule off", x.known(1), 1);
    }

    private static void whyIs(HoldUnless x, int i, int a, int round, int rule) {
        due.is("why(" + i + ", " + a + ", 0)", x.why(i, a, 0), round);
        due.is("why(" + i + ", " + a + ", 1)", x.why(i, a, 1), rule);
    }

    private static void why() {
        HoldUnless x = Due.told("c if b;b if a;c if a b;a;c if a;d unless e;d if c;");
        whyIs(x, 0, 0, 1, 3);
        whyIs(x, 0, 1, 2, 1);
        // c comes in round 2 by rule 4; rules 0 and 2 would bring it only in round 3.
        whyIs(x, 0, 2, 2, 4);
        whyIs(x, 0, 3, 1, 5);
        whyIs(x, 0, 4, HoldUnless.NONE, HoldUnless.NONE);
        whyIs(x, 1, 0, HoldUnless.NONE, HoldUnless.NONE);
        x.turn(4, 0);
        whyIs(x, 0, 2, 3, 0);
        x.turn(0, 0);
        whyIs(x, 0, 2, 3, 2);
        x.assume(4, 1);
        whyIs(x, 0, 4, 0, HoldUnless.NONE);
        whyIs(x, 0, 3, 4, 6);
        x.assume(3, 1);
        whyIs(x, 0, 3, 0, HoldUnless.NONE);

        x = Due.told("may a;b if a;b unless a;");
        whyIs(x, 0, 0, HoldUnless.NONE, HoldUnless.NONE);
        whyIs(x, 0, 1, 1, 1);
        whyIs(x, 1, 0, 0, HoldUnless.NONE);
        whyIs(x, 1, 1, 1, 0);
        whyIs(x, 2, 1, HoldUnless.NONE, HoldUnless.NONE);

        x = Due.told("h if g;g if f;f if e;e if d;d if c;c if b;b if a;a;");
        for (int a = 0; a < 8; a++) {
            whyIs(x, 0, a, a + 1, 7 - a);
        }
        x = Due.told("a;a;");
        whyIs(x, 0, 0, 1, 0);
        x = Due.told("never if a;a;");
        whyIs(x, 0, 0, HoldUnless.NONE, HoldUnless.NONE);
    }

    private static void hangIs(String text, String hanging, String tangled) {
        HoldUnless x = Due.told(text);
        due.is("hangs(0) of " + text, x.hangs(0), Due.bits(hanging));
        due.is("hangs(1) of " + text, x.hangs(1), Due.bits(tangled));
    }

    private static void hangs() {
        hangIs("", "", "");
        hangIs("a;b if a;", "", "");
        hangIs("a if a;", "a", "");
        hangIs("a unless a;", "", "a");
        hangIs("a if a unless a;", "a", "a");
        hangIs("a if b;b if a;c if a;", "ab", "");
        hangIs("a if b;b unless a;", "", "ab");
        hangIs("a unless b;b unless a;", "", "");
        hangIs("a unless b;b unless c;c unless a;", "", "abc");
        // Through b: a unless b, b if a is odd once, and so is twice and once more.
        hangIs("a unless b;b if a;a if b;", "ab", "ab");
        // a hangs on itself oddly only by going through b twice: there, about b, and back.
        hangIs("a if b;b if a;b unless b;", "ab", "ab");
        hangIs("a if b;b if c;c if a;c unless c;d if c;", "abc", "abc");
        hangIs("a unless b;b unless a;b unless c;c if b;", "", "abc");
        hangIs("never if a unless a;", "", "");
        hangIs("a if b;b if c;c if d;d if e;e if f;f if g;g if h;h if a;", "abcdefgh", "");
        hangIs("a if b;b if c;c if d;d if e;e if f;f if g;g if h;h unless a;", "", "abcdefgh");
        // The one unless is a loop at the far end: all eight are passed twice.
        hangIs("a if b;b if a c;c if b d;d if c e;e if d f;f if e g;g if f h;h if g;h unless h;",
                "abcdefgh", "abcdefgh");
        HoldUnless x = Due.told("a if b;b if a;c unless c;");
        x.turn(1, 0);
        x.turn(2, 0);
        due.is("hangs(0), a rule off", x.hangs(0), 0);
        due.is("hangs(1), a rule off", x.hangs(1), 0);
        x.turn(1, 1);
        x.assume(0, 1);
        due.is("hangs(0), assumed", x.hangs(0), Due.bits("ab"));
    }

    private static void wrongInputs() {
        HoldUnless x = Due.told("a;");
        for (int wrong : new int[] {-1, Integer.MIN_VALUE}) {
            due.is("set(" + wrong + ")", x.set(wrong), HoldUnless.BAD);
            due.is("why(" + wrong + ", 0, 0)", x.why(wrong, 0, 0), HoldUnless.BAD);
        }
        for (int wrong : new int[] {-1, 8, 256, Integer.MIN_VALUE, Integer.MAX_VALUE}) {
            due.is("known(" + wrong + ")", x.known(wrong), HoldUnless.BAD);
            due.is("why(0, " + wrong + ", 0)", x.why(0, wrong, 0), HoldUnless.BAD);
            due.is("why(9, " + wrong + ", 1)", x.why(9, wrong, 1), HoldUnless.BAD);
        }
        for (int wrong : new int[] {-1, 2, Integer.MIN_VALUE, Integer.MAX_VALUE}) {
            due.is("holds(" + wrong + ")", x.holds(wrong), HoldUnless.BAD);
            due.is("hangs(" + wrong + ")", x.hangs(wrong), HoldUnless.BAD);
            due.is("why(0, 0, " + wrong + ")", x.why(0, 0, wrong), HoldUnless.BAD);
            due.is("why(5, 0, " + wrong + ")", x.why(5, 0, wrong), HoldUnless.BAD);
        }
        for (int wrong : new int[] {-1, 256, Integer.MIN_VALUE, Integer.MAX_VALUE}) {
            due.is("stands(" + wrong + ")", x.stands(wrong), HoldUnless.BAD);
        }
    }
}
