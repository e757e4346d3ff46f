/** The edges of rules that are told, turned and read anew: promises 5 to 7, 20 to 22. */
public final class RuleEdgesTest {
    private static final Due due = new Due();
    private static final String TEN = "a;b;c;d;e;f;g;h;a;b;";

    public static void main(String[] args) {
        headOfARule();
        bodyOfARule();
        onAtFirst();
        turnTellsWhatItWas();
        turnOfEveryRule();
        turnOfABan();
        assumeTellsWhatItWas();
        assumeOfEverySentence();
        assumedWithoutARule();
        imagesKeepBoth();
        imagesKeepNothingElse();
        imageIsKeptAnew();
        imageStaysAsItWas();
        imagesAreTwo();
        readAnewAllAreOn();
        readAnewNothingIsAssumed();
        readAnewImagesAreGone();
        readAnewMoreOrFewerRules();
        readAnewNothingIsLeft();
        notReadAnewByAFault();
        countOfEach();
        due.end();
    }

    // ---- promise 5

    private static void headOfARule() {
        due.sentence("Of a RULE: 0 its HEAD (8: a BAN)");
        HoldUnless x = Due.told("a;b;c;d;e;f;g;h;never if a;never unless h;");
        for (int k = 0; k < 10; k++) {
            due.is("rule(" + k + ", 0)", x.rule(k, 0), Math.min(k, 8));
        }
    }

    private static void bodyOfARule() {
        due.sentence("Of a RULE: .. 1 IF, 2 UNLESS (bits)");
        HoldUnless x = Due.told("a;b if a;b if h;b if a b c d e f g h;c unless a;c unless h;c unless a b c d e f g h;"
                + "never if b unless c;never unless a h;never if a h;");
        int[] ifs = {0, 1, 128, 255, 0, 0, 0, 2, 0, 129};
        int[] unless = {0, 0, 0, 0, 1, 128, 255, 4, 129, 0};
        for (int k = 0; k < 10; k++) {
            due.is("rule(" + k + ", 1)", x.rule(k, 1), ifs[k]);
            due.is("rule(" + k + ", 2)", x.rule(k, 2), unless[k]);
        }
        due.sentence("Of a RULE: what is told of one that is OFF stays so");
        x.turn(7, 0);
        due.is("rule(7, 0)", x.rule(7, 0), 8);
        due.is("rule(7, 1)", x.rule(7, 1), 2);
        due.is("rule(7, 2)", x.rule(7, 2), 4);
        due.is("rule(7, 3)", x.rule(7, 3), 0);
    }

    private static void onAtFirst() {
        due.sentence("RULES are ON (at first) or OFF; SENTENCES are ASSUMED or not (none at first)");
        HoldUnless x = Due.told(TEN);
        for (int k = 0; k < 10; k++) {
            due.is("rule(" + k + ", 3)", x.rule(k, 3), 1);
        }
        due.is("count(1)", x.count(1), 10);
        due.is("count(3)", x.count(3), 0);
    }

    // ---- promise 6

    private static void turnTellsWhatItWas() {
        due.sentence("A RULE becomes ON (1) or OFF (0): what it was");
        HoldUnless x = Due.told("a;b;");
        int[] to = {1, 0, 0, 1, 1, 0, 1};
        int[] was = {1, 1, 0, 0, 1, 1, 0};
        for (int i = 0; i < to.length; i++) {
            due.is("turn(1, " + to[i] + ")", x.turn(1, to[i]), was[i]);
            due.is("rule(1, 3)", x.rule(1, 3), to[i]);
            due.is("rule(0, 3)", x.rule(0, 3), 1);
            due.is("count(1)", x.count(1), 1 + to[i]);
        }
    }

    private static void turnOfEveryRule() {
        due.sentence("A RULE becomes ON or OFF: each of ten, the first and the last, too");
        for (int k = 0; k < 10; k++) {
            HoldUnless x = Due.told(TEN);
            due.is("turn(" + k + ", 0)", x.turn(k, 0), 1);
            for (int other = 0; other < 10; other++) {
                due.is("rule(" + other + ", 3)", x.rule(other, 3), other == k ? 0 : 1);
            }
        }
        HoldUnless x = Due.told(TEN);
        for (int k = 9; k >= 0; k--) {
            x.turn(k, 0);
            due.is("count(1)", x.count(1), k);
        }
        due.is("set(0), all off", x.set(0), 0);
        due.is("sets()", x.sets(), 1);
    }

    private static void turnOfABan() {
        due.sentence("no BAN that is ON");
        HoldUnless x = Due.told("never if a;a;never if a;");
        due.is("sets()", x.sets(), 0);
        due.is("turn(0, 0)", x.turn(0, 0), 1);
        due.is("sets(), one ban is left", x.sets(), 0);
        due.is("turn(2, 0)", x.turn(2, 0), 1);
        due.is("set(0), both off", x.set(0), 1);
        due.is("turn(0, 1)", x.turn(0, 1), 0);
        due.is("sets()", x.sets(), 0);
    }

    // ---- promise 7

    private static void assumeTellsWhatItWas() {
        due.sentence("A SENTENCE is ASSUMED (1) or not (0): what it was");
        HoldUnless x = new HoldUnless();
        int[] to = {0, 1, 1, 0, 0, 1, 0};
        int[] was = {0, 0, 1, 1, 0, 0, 1};
        for (int i = 0; i < to.length; i++) {
            due.is("assume(7, " + to[i] + ")", x.assume(7, to[i]), was[i]);
            due.is("count(3)", x.count(3), to[i] * 128);
        }
    }

    private static void assumeOfEverySentence() {
        due.sentence("SENTENCES are ASSUMED or not: each of a .. h, all of them");
        HoldUnless x = new HoldUnless();
        int bits = 0;
        for (int a = 0; a < 8; a++) {
            due.is("assume(" + a + ", 1)", x.assume(a, 1), 0);
            bits |= 1 << a;
            due.is("count(3)", x.count(3), bits);
            due.is("set(0)", x.set(0), bits);
            due.is("set(1)", x.set(1), HoldUnless.NONE);
        }
        for (int a = 0; a < 8; a++) {
            due.is("assume(" + a + ", 0)", x.assume(a, 0), 1);
            bits &= ~(1 << a);
            due.is("set(0)", x.set(0), bits);
        }
    }

    private static void assumedWithoutARule() {
        due.sentence("what comes of ASSUMED ones: also of one in no RULE, in a MAY, ahead of any text");
        HoldUnless x = new HoldUnless();
        x.assume(4, 1);
        due.is("set(0) without rules", x.set(0), 16);
        x = Due.told("may e;");
        x.assume(4, 1);
        due.is("sets(), may and assumed", x.sets(), 1);
        due.is("set(0)", x.set(0), 16);
        due.is("count(2) is as told", x.count(2), 16);
        x.assume(4, 0);
        due.is("sets()", x.sets(), 2);
    }

    // ---- promises 20, 21: images

    private static void imagesKeepBoth() {
        due.sentence("IMAGES 0, 1 keep which RULES are ON, and what is ASSUMED");
        for (int image = 0; image <= 1; image++) {
            HoldUnless x = Due.told(TEN);
            x.turn(0, 0);
            x.turn(9, 0);
            x.assume(0, 1);
            x.assume(7, 1);
            due.is("keep(" + image + ")", x.keep(image), 8);
            for (int k = 0; k < 10; k++) {
                x.turn(k, k == 0 || k == 9 ? 1 : 0);
            }
            for (int a = 0; a < 8; a++) {
                x.assume(a, a == 0 || a == 7 ? 0 : 1);
            }
            due.is("count(1)", x.count(1), 2);
            due.is("back(" + image + ")", x.back(image), 8);
            for (int k = 0; k < 10; k++) {
                due.is("rule(" + k + ", 3)", x.rule(k, 3), k == 0 || k == 9 ? 0 : 1);
            }
            due.is("count(3)", x.count(3), 129);
            due.is("back of the other one", x.back(1 - image), HoldUnless.STATE);
        }
        due.sentence("An IMAGE is kept: how many RULES are ON: none, all");
        HoldUnless x = new HoldUnless();
        due.is("keep(0) without rules", x.keep(0), 0);
        due.is("back(0) without rules", x.back(0), 0);
        x = Due.told(TEN);
        due.is("keep(0) of ten", x.keep(0), 10);
        for (int k = 0; k < 10; k++) {
            x.turn(k, 0);
        }
        due.is("keep(1) of none", x.keep(1), 0);
        due.is("back(0)", x.back(0), 10);
        due.is("back(1)", x.back(1), 0);
        due.is("count(1)", x.count(1), 0);
    }

    private static void imagesKeepNothingElse() {
        due.sentence("IMAGES .. nothing else");
        HoldUnless x = Due.told("a;may b;");
        Due.typeAll(x, "c;");
        x.keep(0);
        Due.typeAll(x, "d;");
        x.mark(0, 0);
        x.keep(1);
        x.mark(1, 0);
        due.is("back(0)", x.back(0), 1);
        due.is("count(4) is not as it was", x.count(4), 4);
        due.is("trace() is not as it was", x.trace(), 12);
        due.is("count(2)", x.count(2), 2);
        due.is("alike(1): the other image is still kept", x.alike(1), 1);
        due.is("rules() of both texts", x.rules(), 2);
        due.is("rule(0, 0)", x.rule(0, 0), 2);
    }

    private static void imageIsKeptAnew() {
        due.sentence("An IMAGE is kept: over one that was kept");
        HoldUnless x = Due.told("a;b;");
        x.keep(0);
        x.turn(0, 0);
        x.assume(2, 1);
        due.is("keep(0)", x.keep(0), 1);
        x.turn(0, 1);
        x.assume(2, 0);
        due.is("back(0)", x.back(0), 1);
        due.is("count(3)", x.count(3), 4);
        due.is("keep(0) of what it has", x.keep(0), 1);
        due.is("back(0)", x.back(0), 1);
    }

    private static void imageStaysAsItWas() {
        due.sentence("All of that becomes as an IMAGE has it: it is still kept, and later changes don't come to it");
        HoldUnless x = Due.told("a;b;");
        x.keep(0);
        for (int i = 0; i < 3; i++) {
            x.turn(i % 2, 0);
            x.assume(i, 1);
            due.is("back(0)", x.back(0), 2);
            due.is("count(3)", x.count(3), 0);
            due.is("alike(0)", x.alike(0), 1);
        }
    }

    private static void imagesAreTwo() {
        due.sentence("IMAGES 0, 1");
        HoldUnless x = Due.told("a;b;c;");
        x.assume(5, 1);
        due.is("keep(0)", x.keep(0), 3);
        x.turn(2, 0);
        due.is("alike(1)", x.alike(1), HoldUnless.STATE);
        due.is("back(1)", x.back(1), HoldUnless.STATE);
        x.assume(6, 1);
        due.is("keep(1)", x.keep(1), 2);
        due.is("back(0)", x.back(0), 3);
        due.is("count(3)", x.count(3), 32);
        due.is("back(1)", x.back(1), 2);
        due.is("count(3)", x.count(3), 96);
        due.is("keep(2)", x.keep(2), HoldUnless.BAD);
        due.is("back(0)", x.back(0), 3);
    }

    // ---- read anew

    private static HoldUnless used() {
        HoldUnless x = Due.told("a;b if a;never if c;may d;");
        x.turn(0, 0);
        x.turn(2, 0);
        x.assume(2, 1);
        x.keep(0);
        x.keep(1);
        return x;
    }

    private static void readAnewAllAreOn() {
        due.sentence("(Read anew: all are ON ..)");
        HoldUnless x = used();
        due.is("rules() of the same text", Due.read(x, "a;b if a;never if c;may d;"), 4);
        for (int k = 0; k < 3; k++) {
            due.is("rule(" + k + ", 3)", x.rule(k, 3), 1);
        }
        due.is("count(1)", x.count(1), 3);
    }

    private static void readAnewNothingIsAssumed() {
        due.sentence("(Read anew: .. nothing is ASSUMED ..)");
        HoldUnless x = used();
        Due.read(x, "e;");
        due.is("count(3)", x.count(3), 0);
        due.is("assume(2, 0)", x.assume(2, 0), 0);
        due.is("count(2)", x.count(2), 0);
        due.is("set(0)", x.set(0), 16);
        x = new HoldUnless();
        x.assume(1, 1);
        due.is("rules() of no text", x.rules(), 0);
        due.is("count(3)", x.count(3), 0);
    }

    private static void readAnewImagesAreGone() {
        due.sentence("(Read anew: .. IMAGES are gone.)");
        for (String text : new String[] {"", "a;b if a;never if c;may d;", "may a;"}) {
            HoldUnless x = used();
            Due.read(x, text);
            for (int image = 0; image <= 1; image++) {
                due.is("back(" + image + ")", x.back(image), HoldUnless.STATE);
                due.is("alike(" + image + ")", x.alike(image), HoldUnless.STATE);
            }
            int on = x.count(0);
            due.is("keep(1)", x.keep(1), on);
            due.is("back(1)", x.back(1), on);
            due.is("back(0)", x.back(0), HoldUnless.STATE);
        }
    }

    private static void readAnewMoreOrFewerRules() {
        due.sentence("THE TEXT tells all: fewer RULES than were told, or more");
        HoldUnless x = Due.told(TEN);
        Due.read(x, "h if a;");
        due.is("count(0)", x.count(0), 1);
        due.is("count(1)", x.count(1), 1);
        due.is("rule(1, 0)", x.rule(1, 0), HoldUnless.BAD);
        due.is("turn(1, 1)", x.turn(1, 1), HoldUnless.BAD);
        due.is("mark(0, 1)", x.mark(0, 1), HoldUnless.NO);
        due.is("idle(1)", x.idle(1), HoldUnless.BAD);
        due.is("set(0)", x.set(0), 0);
        Due.read(x, TEN);
        due.is("count(1)", x.count(1), 10);
        due.is("rule(0, 1)", x.rule(0, 1), 0);
        due.is("turn(9, 0)", x.turn(9, 0), 1);
        Due.read(x, TEN);
        due.is("rule(9, 3)", x.rule(9, 3), 1);
        Due.read(x, "a if b unless c;");
        Due.read(x, "a;");
        due.is("rule(0, 1)", x.rule(0, 1), 0);
        due.is("rule(0, 2)", x.rule(0, 2), 0);
    }

    private static void readAnewNothingIsLeft() {
        due.sentence("THE TEXT tells all: nothing is left of texts ahead of it, nor of those with a fault");
        HoldUnless x = Due.told("may a b;c if d unless e;");
        for (String text : new String[] {"f;", "g;", "may h;", "f;", "g;", "h;"}) {
            Due.read(x, text);
            boolean may = text.startsWith("may");
            due.is("count(0) of " + text, x.count(0), may ? 0 : 1);
            due.is("count(2) of " + text, x.count(2), may ? 128 : 0);
            due.is("rule(0, 1) of " + text, x.rule(0, 1), may ? HoldUnless.BAD : 0);
            due.is("rule(0, 2) of " + text, x.rule(0, 2), may ? HoldUnless.BAD : 0);
            due.is("a fault", Due.read(x, "may a b;c if d unless e;d if a;?"), -10 - 31);
        }
    }

    private static void notReadAnewByAFault() {
        due.sentence("-10 less FAULT: nothing changes: nothing is read anew");
        HoldUnless x = used();
        due.is("rules()", Due.read(x, "may a;b;c;d;e;?"), -10 - 14);
        due.is("count(0)", x.count(0), 3);
        due.is("count(1)", x.count(1), 1);
        due.is("count(2)", x.count(2), 8);
        due.is("count(3)", x.count(3), 4);
        due.is("alike(0)", x.alike(0), 1);
        due.is("back(1)", x.back(1), 1);
    }

    // ---- promise 22

    private static void countOfEach() {
        due.sentence("0 RULES, 1 those that are ON, 2 MAY (bits), 3 ASSUMED (bits), 4 bytes of THE TEXT");
        HoldUnless x = Due.told(TEN + "may a b c d e f g h;");
        for (int a = 0; a < 8; a++) {
            x.assume(a, 1);
        }
        x.turn(9, 0);
        Due.typeAll(x, " ".repeat(300));
        int[] want = {10, 9, 255, 255, 300};
        for (int what = 0; what <= 4; what++) {
            due.is("count(" + what + ")", x.count(what), want[what]);
        }
    }
}
