/** Promises 1 to 7: a new object, type, clear, rules, rule, turn, assume. */
public final class RulesTest {
    private static final Due due = new Due();

    public static void main(String[] args) {
        newObject();
        type();
        clear();
        rules();
        faults();
        faultChangesNothing();
        nothingIsLeftOfATextBefore();
        readingAnew();
        rule();
        turn();
        assume();
        due.end();
    }

    private static void newObject() {
        HoldUnless x = new HoldUnless();
        for (int what = 0; what <= 4; what++) {
            due.is("new count(" + what + ")", x.count(what), 0);
        }
        due.is("new trace()", x.trace(), 0);
        due.is("new sets()", x.sets(), 1);
        due.is("new set(0)", x.set(0), 0);
        due.is("new rule(0, 0)", x.rule(0, 0), HoldUnless.BAD);
        due.is("new back(0)", x.back(0), HoldUnless.STATE);
        due.is("new back(1)", x.back(1), HoldUnless.STATE);
        due.is("new alike(0)", x.alike(0), HoldUnless.STATE);
        due.is("new clear()", x.clear(), 0);
        due.is("new rules()", x.rules(), 0);
    }

    private static void type() {
        HoldUnless x = new HoldUnless();
        due.is("type(_, 0)", x.type(1, 0), HoldUnless.BAD);
        due.is("type(_, -1)", x.type(1, -1), HoldUnless.BAD);
        due.is("type(_, 9)", x.type(1, 9), HoldUnless.BAD);
        due.is("type(_, min)", x.type(1, Integer.MIN_VALUE), HoldUnless.BAD);
        due.is("type(_, max)", x.type(1, Integer.MAX_VALUE), HoldUnless.BAD);
        due.is("count(4)", x.count(4), 0);
        // Only the lowest bytes come, the highest of them first: "b;" out of "xxxxxxb;".
        due.is("type(.., 2)", x.type(0x787878787878623bL, 2), 2);
        due.is("rules()", x.rules(), 1);
        due.is("rule(0, 0)", x.rule(0, 0), 1);
        due.is("type(-1, 8)", x.type(-1L, 8), 8);
        due.is("type(0, 1)", x.type(0, 1), 9);
        due.is("count(4)", x.count(4), 9);
        due.is("clear()", x.clear(), 9);
        for (int i = 1; i <= 37; i++) {
            due.is("type 8 bytes", x.type(0x2020202020202020L, 8), 8 * i);
        }
        due.is("type over 300", x.type(0, 5), HoldUnless.FULL);
        due.is("type far over 300", x.type(0, 8), HoldUnless.FULL);
        due.is("type BAD ahead of FULL", x.type(0, 9), HoldUnless.BAD);
        due.is("count(4)", x.count(4), 296);
        due.is("type to 300", x.type(0x2020613bL, 4), 300);
        due.is("type over 300", x.type(32, 1), HoldUnless.FULL);
        due.is("type BAD when full", x.type(32, 0), HoldUnless.BAD);
        due.is("rules() of 300 bytes", x.rules(), 1);
        due.is("count(4)", x.count(4), 0);
    }

    private static void clear() {
        HoldUnless x = Due.told("a;");
        Due.typeAll(x, "b if");
        due.is("clear()", x.clear(), 4);
        due.is("clear()", x.clear(), 0);
        due.is("count(0)", x.count(0), 1);
        due.is("type", Due.typeAll(x, "c;d;e;"), 6);
        due.is("rules()", x.rules(), 3);
    }

    private static void rules() {
        HoldUnless x = new HoldUnless();
        due.is("no text", x.rules(), 0);
        due.is("blanks", Due.read(x, "   "), 0);
        due.is("a fact", Due.read(x, "a;"), 1);
        due.is("blanks about", Due.read(x, "  h  if a  b unless c ;  may d ; "), 2);
        due.is("may alone", Due.read(x, "may a b;may c;"), 2);
        due.is("may twice", x.count(2), Due.bits("abc"));
        due.is("no rule", x.count(0), 0);
        due.is("ten rules", Due.read(x, "a;b;c;d;e;f;g;h;a;b;"), 10);
        due.is("count(0)", x.count(0), 10);
        due.is("may after ten rules", Due.read(x, "a;b;c;d;e;f;g;h;a;b;may a;may b;"), 12);
        due.is("a hundred items", Due.read(x, "may a;".repeat(50)), 50);
        due.is("items after rules", Due.read(x, "never if a;never unless b;never if a unless b;"), 3);
        due.is("the text is empty then", x.count(4), 0);
        due.is("rules() again", x.rules(), 0);
        due.is("all rules are gone", x.count(0), 0);
    }

    private static void faults() {
        fault("a", 1);
        fault("a ", 2);
        fault("a if b ", 7);
        fault("a unless", 8);
        fault("never", 5);
        fault("may", 3);
        fault("may a", 5);
        fault("if a;", 0);
        fault("unless a;", 0);
        fault(";", 0);
        fault("  ;", 2);
        fault("a;;", 2);
        fault("a b;", 2);
        fault("a never;", 2);
        fault("a may b;", 2);
        fault("a if;", 4);
        fault("a if if b;", 5);
        fault("a if unless b;", 5);
        fault("a unless if b;", 9);
        fault("a unless b if c;", 11);
        fault("a if b if c;", 7);
        fault("a if b never;", 7);
        fault("a if b may;", 7);
        fault("a unless b unless c;", 11);
        fault("never;", 5);
        fault("never a;", 6);
        fault("never if;", 8);
        fault("never unless;", 12);
        fault("never never if a;", 6);
        fault("may;", 3);
        fault("may if a;", 4);
        fault("may a unless b;", 6);
        fault("may a may b;", 6);
        fault("i;", 0);
        fault("z;", 0);
        fault("a if i;", 5);
        fault("a i b;", 2);
        fault("aa;", 0);
        fault("az;", 0);
        fault("iff a;", 0);
        fault("a unles b;", 2);
        fault("a unlesss b;", 2);
        fault("mayb;", 0);
        fault("never ifa;", 6);
        fault("a ifb;", 2);
        fault("xxxxxxxxxxxxxxxxa;", 0);
        fault("xxxxxxxxmay a;", 0);
        fault("A;", 0);
        fault("aB;", 1);
        fault("a1;", 1);
        fault("a,", 1);
        fault("a\tif b;", 1);
        fault("a;\n", 2);
        fault("a; \0", 3);
        fault("\u00e1;", 0);
        fault("a if `;", 5);
        fault("a if {;", 5);
        // The first fault counts, not a worse one behind it.
        fault("a b; ?", 2);
        fault("a ?b b;", 2);
        fault("a;b;c;d;e;f;g;h;a;b;c;", 20);
        fault("a;b;c;d;e;f;g;h;a;b; never if a;", 21);
        fault("a;b;c;d;e;f;g;h;a;b; never", 21);
        fault("a;b;c;d;e;f;g;h;a;b;may a;c;", 26);
        fault("a;b;c;d;e;f;g;h;a;b;if", 20);
        fault(" ".repeat(299) + "a", 300);
        fault(" ".repeat(299) + "?", 299);
    }

    private static void fault(String text, int place) {
        HoldUnless x = new HoldUnless();
        due.is("rules() of \"" + text + "\"", Due.read(x, text), -10 - place);
        due.is("count(4) after \"" + text + "\"", x.count(4), text.length());
        due.is("count(0) after \"" + text + "\"", x.count(0), 0);
        due.is("count(2) after \"" + text + "\"", x.count(2), 0);
    }

    private static void faultChangesNothing() {
        HoldUnless x = Due.told("a if b unless c;never if d;may e;");
        x.turn(0, 0);
        x.assume(5, 1);
        x.keep(0);
        x.assume(6, 1);
        due.is("a fault", Due.read(x, "may a;b if a;c if;"), -10 - 17);
        due.is("count(0)", x.count(0), 2);
        due.is("count(1)", x.count(1), 1);
        due.is("count(2)", x.count(2), Due.bits("e"));
        due.is("count(3)", x.count(3), Due.bits("fg"));
        due.is("count(4)", x.count(4), 18);
        due.is("rule(0, 0)", x.rule(0, 0), 0);
        due.is("rule(0, 1)", x.rule(0, 1), Due.bits("b"));
        due.is("rule(0, 2)", x.rule(0, 2), Due.bits("c"));
        due.is("rule(1, 0)", x.rule(1, 0), 8);
        due.is("back(0)", x.back(0), 1);
        due.is("count(3)", x.count(3), Due.bits("f"));
        due.is("the same fault", x.rules(), -10 - 17);
        due.is("the text goes on", Due.typeAll(x, "d;"), 20);
        due.is("the same fault", x.rules(), -10 - 17);
    }

    private static void nothingIsLeftOfATextBefore() {
        HoldUnless x = Due.told("a;");
        due.is("a fault first", Due.read(x, "?"), -10);
        due.is("a longer text", Due.read(x, "a if b   ;"), 1);
        due.is("a shorter one ends too early", Due.read(x, "a if b"), -10 - 6);
        due.is("a longer word", Due.read(x, "unless"), -10);
        due.is("a shorter one", Due.read(x, "b"), -10 - 1);
        due.is("rule(0, 0)", x.rule(0, 0), 0);
        due.is("count(0)", x.count(0), 1);
    }

    private static void readingAnew() {
        HoldUnless x = Due.told("a if b;c;may d;");
        x.turn(0, 0);
        x.assume(4, 1);
        x.keep(0);
        x.keep(1);
        x.mark(0, 0);
        due.is("rules()", Due.read(x, "e;f if e;"), 2);
        due.is("count(1)", x.count(1), 2);
        due.is("count(2)", x.count(2), 0);
        due.is("count(3)", x.count(3), 0);
        due.is("back(0)", x.back(0), HoldUnless.STATE);
        due.is("alike(1)", x.alike(1), HoldUnless.STATE);
        due.is("trace() stays", x.trace(), 1);
        due.is("set(0)", x.set(0), Due.bits("ef"));
    }

    private static void rule() {
        HoldUnless x = Due.told("h if a b a unless b c;may d;never unless h;g;");
        int[][] want = {{7, 3, 6, 1}, {8, 0, 128, 1}, {6, 0, 0, 1}};
        for (int k = 0; k < 3; k++) {
            for (int what = 0; what < 4; what++) {
                due.is("rule(" + k + ", " + what + ")", x.rule(k, what), want[k][what]);
            }
        }
        x.turn(1, 0);
        due.is("rule(1, 3)", x.rule(1, 3), 0);
        due.is("rule(3, 0)", x.rule(3, 0), HoldUnless.BAD);
        due.is("rule(-1, 0)", x.rule(-1, 0), HoldUnless.BAD);
        due.is("rule(0, 4)", x.rule(0, 4), HoldUnless.BAD);
        due.is("rule(0, -1)", x.rule(0, -1), HoldUnless.BAD);
        due.is("rule(max, min)", x.rule(Integer.MAX_VALUE, Integer.MIN_VALUE), HoldUnless.BAD);
    }

    private static void turn() {
        HoldUnless x = Due.told("a;b;c;d;e;f;g;h;a;b;");
        due.is("turn(9, 0)", x.turn(9, 0), 1);
        due.is("turn(9, 0)", x.turn(9, 0), 0);
        due.is("turn(2, 0)", x.turn(2, 0), 1);
        due.is("count(1)", x.count(1), 8);
        due.is("set(0)", x.set(0), Due.bits("abdefgh"));
        due.is("turn(2, 1)", x.turn(2, 1), 0);
        due.is("turn(2, 1)", x.turn(2, 1), 1);
        due.is("set(0)", x.set(0), 255);
        due.is("turn(10, 1)", x.turn(10, 1), HoldUnless.BAD);
        due.is("turn(-1, 1)", x.turn(-1, 1), HoldUnless.BAD);
        due.is("turn(0, 2)", x.turn(0, 2), HoldUnless.BAD);
        due.is("turn(0, -1)", x.turn(0, -1), HoldUnless.BAD);
        due.is("count(1)", x.count(1), 9);
    }

    private static void assume() {
        HoldUnless x = Due.told("b if a;");
        due.is("assume(0, 1)", x.assume(0, 1), 0);
        due.is("assume(0, 1)", x.assume(0, 1), 1);
        due.is("set(0)", x.set(0), Due.bits("ab"));
        due.is("assume(7, 1)", x.assume(7, 1), 0);
        due.is("count(3)", x.count(3), Due.bits("ah"));
        due.is("assume(0, 0)", x.assume(0, 0), 1);
        due.is("assume(0, 0)", x.assume(0, 0), 0);
        due.is("set(0)", x.set(0), Due.bits("h"));
        due.is("assume(8, 1)", x.assume(8, 1), HoldUnless.BAD);
        due.is("assume(-1, 1)", x.assume(-1, 1), HoldUnless.BAD);
        due.is("assume(1, 2)", x.assume(1, 2), HoldUnless.BAD);
        due.is("assume(1, -1)", x.assume(1, -1), HoldUnless.BAD);
        due.is("count(3)", x.count(3), Due.bits("h"));
    }
}
