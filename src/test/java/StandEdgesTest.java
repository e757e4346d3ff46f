/** The edges of sets that stand, of what is known, of why and of what hangs: promises 8 to 14. */
public final class StandEdgesTest {
    private static final Due due = new Due();
    private static final int NONE = HoldUnless.NONE;
    private static final String ALL_MAY = "may a b c d e f g h;";

    public static void main(String[] args) {
        justWhatComes();
        theLeastSet();
        mayOnesInIt();
        noUnlessInIt();
        rulesThatAreOff();
        assumedOnesComeAlways();
        bans();
        setsFromNoneToAll();
        setIsNoneBehindTheLast();
        setsRise();
        standsFrom0To255();
        holdsWithNoSet();
        holdsInSomeAndInAll();
        knownOfNothing();
        knownAfterManyTurns();
        knownTillNeitherChanges();
        knownLeavesBansOut();
        knownOfMay();
        openIsNotUndecided();
        whyInRoundZero();
        whyInRoundsAhead();
        whyByTheFirstRule();
        whyInTheLastRound();
        whyInTheSetAskedFor();
        whyNotInIt();
        whyNotSoManySets();
        hangsByIfAlone();
        tangledByAnOddNumber();
        tangledThroughOneMoreThanOnce();
        hangsByRulesThatAreOn();
        hangsNotByBans();
        due.end();
    }

    private static void stand(HoldUnless x, String what, String... sets) {
        due.is("sets() of " + what, x.sets(), sets.length);
        boolean[] wanted = new boolean[256];
        for (int i = 0; i < sets.length; i++) {
            due.is("set(" + i + ") of " + what, x.set(i), Due.bits(sets[i]));
            wanted[Due.bits(sets[i])] = true;
        }
        due.is("set(" + sets.length + ") of " + what, x.set(sets.length), NONE);
        for (int set = 0; set < 256; set++) {
            due.is("stands(" + set + ") of " + what, x.stands(set), wanted[set] ? 1 : 0);
        }
    }

    private static void stand(String text, String... sets) {
        stand(Due.told(text), text, sets);
    }

    // ---- what stands

    private static void justWhatComes() {
        due.sentence("A SET S of SENTENCES STANDS, if it is just what comes: no less and no more");
        stand("", "");
        stand("a;", "a");
        stand("h;", "h");
        stand("a;b;c;d;e;f;g;h;", "abcdefgh");
        stand("b if a;", "");
        stand("a;b if a c;", "a");
        stand("a;c;b if a c;", "abc");
    }

    private static void theLeastSet() {
        due.sentence("(the least set with these, in which the HEAD of each of these RULES is whose IF is in it)");
        stand("a if a;", "");
        stand("a if b;b if a;", "");
        stand("a if b;b if c;c if d;d if e;e if f;f if g;g if h;h if a;", "");
        stand("a if b;b if a;b if c;may c;", "", "abc");
        stand("h if g;g if f;f if e;e if d;d if c;c if b;b if a;a;", "abcdefgh");
        // What holds itself up only by itself does not keep another one away either.
        stand("a if a;b unless a;", "b");
    }

    private static void mayOnesInIt() {
        due.sentence("MAY ones in S");
        stand("may h;", "", "h");
        stand("may a;never unless a;", "a");
        stand("may a;b if a;", "", "ab");
        stand("may a;a;", "a");
        stand("may a;a if b;b if a;", "", "ab");
        stand("may a;a unless b;", "a");
    }

    private static void noUnlessInIt() {
        due.sentence("RULES that are ON, have a HEAD, and no UNLESS in S");
        stand("a unless a;");
        stand("a unless b;", "a");
        stand("b;a unless b;", "b");
        stand("h;a unless b c d e f g h;", "h");
        stand("a unless b c d e f g h;", "a");
        stand("a unless b;b unless a;", "a", "b");
        stand("a unless b;b unless c;c unless a;");
        stand("a if b unless b;b;", "b");
        stand("a unless a;a if b;may b;", "ab");
    }

    private static void rulesThatAreOff() {
        due.sentence("RULES that are ON .. no BAN that is ON");
        HoldUnless x = Due.told("a;b if a;never if b;");
        stand(x, "a, b if a, ban of b");
        x = Due.told("a;b if a;never if b;");
        x.turn(2, 0);
        stand(x, "the ban off", "ab");
        x = Due.told("a;b if a;never if b;");
        x.turn(1, 0);
        stand(x, "the rule off", "a");
        x = Due.told("a;b if a;never if b;");
        x.turn(0, 0);
        stand(x, "the fact off", "");
    }

    private static void assumedOnesComeAlways() {
        due.sentence("what comes of ASSUMED ones");
        HoldUnless x = Due.told("a unless b;b unless a;");
        x.assume(0, 1);
        stand(x, "a assumed", "a");
        x = Due.told("a unless a;");
        x.assume(0, 1);
        stand(x, "a, which would keep itself away", "a");
        x = Due.told("a unless b;b unless a;");
        x.assume(0, 1);
        x.assume(1, 1);
        stand(x, "both assumed", "ab");
        x = Due.told("b if a;c if b;");
        x.assume(0, 1);
        stand(x, "a brings the others", "abc");
        x = new HoldUnless();
        for (int a = 0; a < 8; a++) {
            x.assume(a, 1);
        }
        stand(x, "all assumed", "abcdefgh");
    }

    private static void bans() {
        due.sentence("no BAN that is ON has its IF in S and no UNLESS in it");
        stand("never if a;may a b;", "", "b");
        stand("never unless a;may a b;", "a", "ab");
        stand("never unless a;");
        stand("never if a b;may a b;", "", "a", "b");
        stand("never unless a b;may a b;", "a", "b", "ab");
        stand("never if a unless b;may a b;", "", "b", "ab");
        stand("never if a unless a;may a;", "", "a");
        HoldUnless x = Due.told("never if a;");
        x.assume(0, 1);
        stand(x, "one that is assumed and banned");
        x = Due.told("never if a b c d e f g h;" + ALL_MAY);
        due.is("sets(), all eight banned", x.sets(), 255);
        due.is("stands(255)", x.stands(255), 0);
        due.is("stands(254)", x.stands(254), 1);
        x = Due.told("never unless a b c d e f g h;" + ALL_MAY);
        due.is("sets(), none of eight banned", x.sets(), 255);
        due.is("stands(0)", x.stands(0), 0);
        due.is("stands(1)", x.stands(1), 1);
    }

    // ---- promises 8 to 11

    private static void setsFromNoneToAll() {
        due.sentence("ALL SETS: how many: none, one, 256");
        due.is("sets() of none", Due.told("a unless a;").sets(), 0);
        due.is("sets() of one", new HoldUnless().sets(), 1);
        due.is("sets() of all", Due.told(ALL_MAY).sets(), 256);
        due.is("sets() of half", Due.told("may b c d e f g h;").sets(), 128);
    }

    private static void setIsNoneBehindTheLast() {
        due.sentence("The i-th SET (0 on; bits); NONE: not so many");
        HoldUnless x = Due.told(ALL_MAY);
        due.is("set(0)", x.set(0), 0);
        due.is("set(255)", x.set(255), 255);
        due.is("set(256)", x.set(256), NONE);
        due.is("set(max)", x.set(Integer.MAX_VALUE), NONE);
        x = Due.told("a unless a;");
        due.is("set(0) of none", x.set(0), NONE);
        x = Due.told("a unless b;b unless a;");
        due.is("set(0)", x.set(0), 1);
        due.is("set(1)", x.set(1), 2);
        due.is("set(2)", x.set(2), NONE);
        due.is("set(256): it doesn't go about", x.set(256), NONE);
    }

    private static void setsRise() {
        due.sentence("ALL SETS that STAND, by their bits (a is 1, b 2, ..), rising");
        HoldUnless x = Due.told("never if a;never if c d;" + ALL_MAY);
        int last = -1;
        int many = x.sets();
        due.is("sets()", many, 96);
        for (int i = 0; i < many; i++) {
            due.isTrue("set(" + i + ") is above the one ahead", x.set(i) > last);
            last = x.set(i);
        }
        due.is("the last set", last, 2 + 8 + 16 + 32 + 64 + 128);
    }

    private static void standsFrom0To255() {
        due.sentence("Whether a SET (0 .. 255) STANDS: 1, 0");
        HoldUnless x = Due.told(ALL_MAY);
        due.is("stands(0)", x.stands(0), 1);
        due.is("stands(255)", x.stands(255), 1);
        due.is("stands(-1)", x.stands(-1), HoldUnless.BAD);
        due.is("stands(256)", x.stands(256), HoldUnless.BAD);
        x = Due.told("a;");
        due.is("stands(0)", x.stands(0), 0);
        due.is("stands(1)", x.stands(1), 1);
        due.is("stands(255)", x.stands(255), 0);
        due.is("stands(257): it is not 1", x.stands(257), HoldUnless.BAD);
    }

    private static void holdsWithNoSet() {
        due.sentence("IN ALL (1; with no SET: all)");
        HoldUnless x = Due.told("a unless a;b;");
        due.is("holds(1)", x.holds(1), 255);
        due.sentence("IN SOME (what = 0): with no SET none is in some");
        due.is("holds(0)", x.holds(0), 0);
        x.turn(0, 0);
        due.is("holds(0) of one set", x.holds(0), 2);
        due.is("holds(1) of one set", x.holds(1), 2);
    }

    private static void holdsInSomeAndInAll() {
        due.sentence("IN SOME, IN ALL of these");
        HoldUnless x = new HoldUnless();
        due.is("holds(0) of the empty set", x.holds(0), 0);
        due.is("holds(1) of the empty set", x.holds(1), 0);
        x = Due.told(ALL_MAY);
        due.is("holds(0) of all sets", x.holds(0), 255);
        due.is("holds(1) of all sets", x.holds(1), 0);
        x = Due.told("a;b;c;d;e;f;g;h;");
        due.is("holds(0) of the full set", x.holds(0), 255);
        due.is("holds(1) of the full set", x.holds(1), 255);
        x = Due.told("a unless b;b unless a;h if a;h if b;");
        due.is("holds(0)", x.holds(0), Due.bits("abh"));
        due.is("holds(1)", x.holds(1), Due.bits("h"));
        x.assume(1, 1);
        due.is("holds(0), b assumed", x.holds(0), Due.bits("bh"));
        due.is("holds(1), b assumed", x.holds(1), Due.bits("bh"));
        x.turn(3, 0);
        due.is("holds(0), a rule off", x.holds(0), Due.bits("b"));
        due.is("holds(1), a rule off", x.holds(1), Due.bits("b"));
    }

    // ---- promise 12

    /** What is known of a, b, ..: + sure, - ruled out (and all that are not written), ? open. */
    private static void knows(HoldUnless x, String what, String known) {
        for (int a = 0; a < 8; a++) {
            char mark = a < known.length() ? known.charAt(a) : '-';
            int want = mark == '+' ? 1 : mark == '-' ? 0 : NONE;
            due.is("known(" + a + ") of " + what, x.known(a), want);
        }
    }

    private static void knows(String text, String known) {
        knows(Due.told(text), text, known);
    }

    private static void knownOfNothing() {
        due.sentence("SURE is what is in LESS, RULED OUT what is not in MORE, OPEN the others");
        knows("", "--------");
        knows("a;b;c;d;e;f;g;h;", "++++++++");
        knows("a unless a;b unless b;c unless c;d unless d;e unless e;f unless f;g unless g;h unless h;", "????????");
        knows("a;c unless c;", "+-?");
    }

    private static void knownAfterManyTurns() {
        due.sentence("by turns LESS .. then MORE .. till neither changes: after many turns");
        knows("h unless g;g unless f;f unless e;e unless d;d unless c;c unless b;b unless a;", "-+-+-+-+");
        knows("a unless b;b unless c;c unless d;d unless e;e unless f;f unless g;g unless h;", "+-+-+-+-");
        knows("a unless b;b unless c;c unless d;d unless e;e unless f;f unless g;g unless h;h;", "-+-+-+-+");
        knows("a unless b;b unless c;c unless d;d unless e;e unless f;f unless g;g unless h;h unless h;", "????????");
    }

    private static void knownTillNeitherChanges() {
        due.sentence("till neither changes: LESS is as it was after the first turn, MORE is not");
        knows("a unless b;", "+");
        knows("a unless b;c unless a;", "+--");
        due.sentence("LESS is nothing, MORE all at first");
        // The loop of a and b must not be in more for good because more was all at first.
        knows("a if b;b if a;c unless a;", "--+");
    }

    private static void knownLeavesBansOut() {
        due.sentence("SURE, RULED OUT, OPEN (BANS left out)");
        knows("a;never if a;", "+");
        knows("may a;never if a;", "?");
        knows("may a;never unless a;", "?");
        knows("never unless a;", "-");
        knows("a unless b;b unless a;never if a;", "??");
    }

    private static void knownOfMay() {
        due.sentence("MORE what comes of ASSUMED ones, MAY ones and RULES; LESS of ASSUMED ones and RULES");
        knows(ALL_MAY, "????????");
        knows("may a;b if a;c unless a;d unless c;", "????");
        knows("may a;a;c unless a;", "+--");
        HoldUnless x = Due.told("may a;b if a;c unless b;");
        x.assume(0, 1);
        knows(x, "may and assumed", "++-");
        x = Due.told("a unless b;b unless a;c if d a;");
        x.assume(3, 1);
        knows(x, "d assumed", "???+");
        x = Due.told("a unless a;");
        x.turn(0, 0);
        knows(x, "its rule off", "-");
        x.assume(0, 1);
        knows(x, "assumed without a rule", "+");
        x.turn(0, 1);
        knows(x, "assumed against its rule", "+");
    }

    private static void openIsNotUndecided() {
        due.sentence("OPEN the others: also one that is in all sets, or in none");
        knows("a unless b;b unless a;c if a;c if b;d if a b;", "????");
        HoldUnless x = Due.told("a unless b;b unless a;c if a;c if b;d if a b;");
        due.is("holds(1)", x.holds(1), 4);
        due.is("holds(0) is without d", x.holds(0), 7);
    }

    // ---- promise 13

    private static void whyIs(HoldUnless x, int i, int a, int round, int rule) {
        due.is("why(" + i + ", " + a + ", 0)", x.why(i, a, 0), round);
        due.is("why(" + i + ", " + a + ", 1)", x.why(i, a, 1), rule);
    }

    private static void whyInRoundZero() {
        due.sentence("in round 0 come ASSUMED ones, and MAY ones that are in it .. (NONE in round 0)");
        HoldUnless x = Due.told("a;may b;b;c if a;");
        x.assume(0, 1);
        x.assume(7, 1);
        whyIs(x, 0, 0, 0, NONE);
        whyIs(x, 0, 1, 0, NONE);
        whyIs(x, 0, 2, 1, 2);
        whyIs(x, 0, 7, 0, NONE);
        x.assume(0, 0);
        whyIs(x, 0, 0, 1, 0);
        whyIs(x, 0, 2, 2, 2);
    }

    private static void whyInRoundsAhead() {
        due.sentence("in each next round the HEADS of RULES .. whose IF came in rounds ahead: not in the same one");
        // In the order of the rules all could come at once; each takes a round of its own.
        HoldUnless x = Due.told("a;b if a;c if b;d if c;e if d;f if e;g if f;h if g;");
        for (int a = 0; a < 8; a++) {
            whyIs(x, 0, a, a + 1, a);
        }
        x.assume(0, 1);
        for (int a = 1; a < 8; a++) {
            whyIs(x, 0, a, a, a);
        }
        // A rule without if comes in round 1, not 0.
        x = Due.told("a;b unless c;");
        whyIs(x, 0, 0, 1, 0);
        whyIs(x, 0, 1, 1, 1);
    }

    private static void whyByTheFirstRule() {
        due.sentence("the first RULE by which it came then: not one by which it comes only later");
        HoldUnless x = Due.told("c if b;b if a;c if a;c if a;a;");
        whyIs(x, 0, 2, 2, 2);
        x.turn(2, 0);
        whyIs(x, 0, 2, 2, 3);
        x.turn(3, 0);
        whyIs(x, 0, 2, 3, 0);
        due.sentence("RULES that are ON, without UNLESS in it");
        x = Due.told("a unless b;b;a;a unless c;");
        whyIs(x, 0, 0, 1, 2);
        x.turn(2, 0);
        whyIs(x, 0, 0, 1, 3);
        x = Due.told("never if b unless c;a;a;");
        whyIs(x, 0, 0, 1, 1);
        // Rule 0 never brings b, though d, which keeps it away, comes only in round 3.
        x = Due.told("b unless d;c if b;a;e if a;d if e;b if d;");
        whyIs(x, 0, 3, 3, 4);
        whyIs(x, 0, 1, 4, 5);
        whyIs(x, 0, 2, 5, 1);
        // Nor does a rule that is off bring what another one brings later.
        x = Due.told("b;c if b;a;b if a;");
        x.turn(0, 0);
        whyIs(x, 0, 1, 2, 3);
        whyIs(x, 0, 2, 3, 1);
    }

    private static void whyInTheLastRound() {
        due.sentence("its round: 8 at most, and the tenth RULE");
        HoldUnless x = Due.told("never if a unless b;never if b unless a;h if g;g if f;f if e;e if d;d if c;c if b;b if a;a;");
        for (int a = 0; a < 8; a++) {
            whyIs(x, 0, a, a + 1, 9 - a);
        }
    }

    private static void whyInTheSetAskedFor() {
        due.sentence("WHY of a SENTENCE in the i-th SET");
        HoldUnless x = Due.told("may a;b if a;b unless a;c if b;");
        whyIs(x, 0, 1, 1, 1);
        whyIs(x, 0, 2, 2, 2);
        whyIs(x, 1, 0, 0, NONE);
        whyIs(x, 1, 1, 1, 0);
        whyIs(x, 1, 2, 2, 2);
        x = Due.told(ALL_MAY);
        whyIs(x, 255, 7, 0, NONE);
        whyIs(x, 128, 7, 0, NONE);
        whyIs(x, 127, 7, NONE, NONE);
    }

    private static void whyNotInIt() {
        due.sentence("NONE: it is not in it");
        HoldUnless x = Due.told("may a;b if a;b unless a;");
        whyIs(x, 0, 0, NONE, NONE);
        whyIs(x, 0, 7, NONE, NONE);
        whyIs(x, 1, 2, NONE, NONE);
        whyIs(new HoldUnless(), 0, 0, NONE, NONE);
    }

    private static void whyNotSoManySets() {
        due.sentence("NONE: .. or there are not so many SETS");
        HoldUnless x = Due.told("a;");
        whyIs(x, 0, 0, 1, 0);
        whyIs(x, 1, 0, NONE, NONE);
        whyIs(x, 256, 0, NONE, NONE);
        whyIs(x, Integer.MAX_VALUE, 0, NONE, NONE);
        x.assume(1, 1);
        whyIs(x, 1, 1, NONE, NONE);
        x = Due.told("a;never if a;");
        whyIs(x, 0, 0, NONE, NONE);
    }

    // ---- promise 14

    private static void hangIs(String text, String hanging, String tangled) {
        HoldUnless x = Due.told(text);
        due.is("hangs(0) of " + text, x.hangs(0), Due.bits(hanging));
        due.is("hangs(1) of " + text, x.hangs(1), Due.bits(tangled));
    }

    private static void hangsByIfAlone() {
        due.sentence("SENTENCES that hang on themselves by IF alone");
        hangIs("", "", "");
        hangIs("a;", "", "");
        hangIs("b if a;", "", "");
        hangIs("a if a;", "a", "");
        hangIs("h if h;", "h", "");
        hangIs("a if b;b if a;c if a;b if d;", "ab", "");
        hangIs("a if b;b if c;c if d;d if e;e if f;f if g;g if h;h if a;", "abcdefgh", "");
        hangIs("a if b;b unless c;c if a;", "", "abc");
        hangIs("a unless b;b unless a;", "", "");
    }

    private static void tangledByAnOddNumber() {
        due.sentence("TANGLED: those that hang on themselves by IF and an odd number of times by UNLESS");
        hangIs("a unless a;", "", "a");
        hangIs("a unless b;b if a;", "", "ab");
        hangIs("a unless b;b unless c;c if a;", "", "");
        hangIs("a unless b;b unless c;c unless a;", "", "abc");
        hangIs("a unless b;b unless c;c unless d;d unless a;", "", "");
        hangIs("a if b;b if c;c if d;d if e;e if f;f if g;g if h;h unless a;", "", "abcdefgh");
        hangIs("a unless b;b unless c;c unless d;d unless e;e unless f;f unless g;g unless h;h unless a;", "", "");
        hangIs("a unless b;b unless c;c unless d;d unless e;e unless f;f unless g;g unless h;h if a;", "", "abcdefgh");
        hangIs("a if b unless b;b if a;", "ab", "ab");
        hangIs("a if a unless a;", "a", "a");
        // One that hangs on a tangle, or that a tangle hangs on, is not in it.
        hangIs("a unless a;b if a;a if c;c;", "", "a");
    }

    private static void tangledThroughOneMoreThanOnce() {
        due.sentence("(such a way may come through one SENTENCE more than once)");
        hangIs("a if b;b if a;b unless b;", "ab", "ab");
        hangIs("a unless b;b unless a;b unless b;", "", "ab");
        hangIs("a unless b;b unless a;b if c;c unless b;", "", "abc");
        hangIs("a if b;b if a c;c if b d;d if c e;e if d f;f if e g;g if f h;h if g;h unless h;", "abcdefgh", "abcdefgh");
        hangIs("a if b;b if a c;c if b;c unless d;d if c;", "abc", "abcd");
    }

    private static void hangsByRulesThatAreOn() {
        due.sentence("HANGS (RULES that are ON ..)");
        HoldUnless x = Due.told("a if b;b if a;c unless c;c if c;");
        due.is("hangs(0)", x.hangs(0), 7);
        due.is("hangs(1)", x.hangs(1), 4);
        x.turn(1, 0);
        due.is("hangs(0), one off", x.hangs(0), 4);
        x.turn(2, 0);
        due.is("hangs(1), the tangle off", x.hangs(1), 0);
        x.turn(3, 0);
        due.is("hangs(0), all off", x.hangs(0), 0);
        x.turn(1, 1);
        x.assume(0, 1);
        x.assume(1, 1);
        due.is("hangs(0): whether they are assumed does not count", x.hangs(0), 3);
        // Whichever rule of a tangle is off, there is none.
        String[] tangles = {"a if b;b unless a;", "a unless b;b unless c;c unless a;", "a unless b;b if c;c if a;"};
        for (String text : tangles) {
            HoldUnless y = Due.told(text);
            int all = y.hangs(1);
            due.is("hangs(1) of " + text, all, (1 << y.count(0)) - 1);
            for (int k = 0; k < y.count(0); k++) {
                y.turn(k, 0);
                due.is("hangs(1) of " + text + " without " + k, y.hangs(1), 0);
                y.turn(k, 1);
                due.is("hangs(1) of " + text, y.hangs(1), all);
            }
        }
    }

    private static void hangsNotByBans() {
        due.sentence("HANGS (.. of SENTENCES in the HEAD on those in the BODY): a BAN has no HEAD");
        hangIs("never if a unless a;", "", "");
        hangIs("never if a;a unless b;never unless b;b if a;", "", "ab");
        hangIs("never if a;never if h;a if h;", "", "");
    }
}
