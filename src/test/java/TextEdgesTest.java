/** The edges of the text and of its reading: promises 1 to 4, and what "Terms" says of TOKENS, ITEMS, FAULT. */
public final class TextEdgesTest {
    private static final Due due = new Due();
    private static final String TEN = "a;b;c;d;e;f;g;h;a;b;";

    public static void main(String[] args) {
        newObject();
        typeTakesTheLowestBytes();
        typeTakesEveryByte();
        typeUpTo300();
        clearOfEmptyAndFull();
        itemsAreCounted();
        noText();
        textIsEmptyThen();
        sentencesAreAToH();
        tenRulesAtMost();
        eleventhRule();
        setsOfABody();
        oneInBoth();
        aBanHasNoHead();
        blanksBetweenTokens();
        otherBytesAreFaults();
        itemsEndInSemicolon();
        oneSentenceOrMore();
        neverWithoutEither();
        everyTokenBehindEveryOther();
        wordsThatAreNone();
        longWords();
        firstFaultCounts();
        textEndsTooEarly();
        faultAtTheFarEnd();
        due.end();
    }

    private static void reads(String text, int items) {
        HoldUnless x = new HoldUnless();
        due.is("rules() of \"" + text + "\"", Due.read(x, text), items);
        due.is("count(4) then", x.count(4), 0);
    }

    private static void fault(String text, int place) {
        HoldUnless x = new HoldUnless();
        due.is("rules() of \"" + text + "\"", Due.read(x, text), -10 - place);
        due.is("count(4) then", x.count(4), text.length());
        due.is("count(0) then", x.count(0), 0);
    }

    private static void ruleIs(HoldUnless x, int k, int head, String ifs, String unless) {
        due.is("rule(" + k + ", 0)", x.rule(k, 0), head);
        due.is("rule(" + k + ", 1)", x.rule(k, 1), Due.bits(ifs));
        due.is("rule(" + k + ", 2)", x.rule(k, 2), Due.bits(unless));
    }

    // ---- promise 1

    private static void newObject() {
        due.sentence("As told; no RULES");
        HoldUnless x = new HoldUnless();
        for (int what = 0; what <= 4; what++) {
            due.is("count(" + what + ")", x.count(what), 0);
        }
        due.is("trace()", x.trace(), 0);
        due.is("sets()", x.sets(), 1);
        due.is("set(0)", x.set(0), 0);
        due.is("set(1)", x.set(1), HoldUnless.NONE);
        due.is("stands(0)", x.stands(0), 1);
        due.is("stands(255)", x.stands(255), 0);
        due.is("holds(0)", x.holds(0), 0);
        due.is("holds(1)", x.holds(1), 0);
        for (int a = 0; a < 8; a++) {
            due.is("known(" + a + ")", x.known(a), 0);
            due.is("why(0, " + a + ", 0)", x.why(0, a, 0), HoldUnless.NONE);
            due.is("explains(" + a + ", 255)", x.explains(a, 255), 1 << a);
            due.is("explains(" + a + ", 0)", x.explains(a, 0), HoldUnless.NONE);
        }
        due.is("hangs(0)", x.hangs(0), 0);
        due.is("hangs(1)", x.hangs(1), 0);
        due.is("givesUp()", x.givesUp(), 0);
        due.is("rule(0, 0)", x.rule(0, 0), HoldUnless.BAD);
        due.is("turn(0, 0)", x.turn(0, 0), HoldUnless.BAD);
        due.is("idle(0)", x.idle(0), HoldUnless.BAD);
        due.is("mark(0, 0)", x.mark(0, 0), HoldUnless.NO);
        for (int image = 0; image <= 1; image++) {
            due.is("alike(" + image + ")", x.alike(image), HoldUnless.STATE);
            due.is("back(" + image + ")", x.back(image), HoldUnless.STATE);
        }
        due.is("keep(0)", x.keep(0), 0);
        due.is("clear()", x.clear(), 0);
    }

    // ---- promise 2

    private static void typeTakesTheLowestBytes() {
        due.sentence("The lowest n (1 .. 8) bytes of v, the highest of them first");
        // Of ";;;;;;;;" over the text, only the text must come: a ; too many would be a fault.
        String[] texts = {"h", "h;", "h; ", "h;g;", "h ;g;", "h;g;f;", "h ;g;f;", "h;g;f;e;"};
        for (int n = 1; n <= 8; n++) {
            String text = texts[n - 1];
            long v = 0x3b3b3b3b3b3b3b3bL;
            for (int i = 0; i < n; i++) {
                v = v << 8 | text.charAt(i);
            }
            HoldUnless x = new HoldUnless();
            due.is("type(.., " + n + ")", x.type(v, n), n);
            if (n == 1) {
                due.is("type(';', 1)", x.type(0x3b, 1), 2);
            }
            int heads = (int) text.chars().filter(c -> c >= 'a').count();
            due.is("rules() of " + text, x.rules(), heads);
            for (int k = 0; k < heads; k++) {
                due.is("rule(" + k + ", 0)", x.rule(k, 0), 7 - k);
            }
        }
    }

    private static void typeTakesEveryByte() {
        due.sentence("bytes of v: a byte of 128 and more, and 0, is a byte as well");
        HoldUnless x = new HoldUnless();
        due.is("type(0, 8)", x.type(0L, 8), 8);
        due.is("type(-1, 8)", x.type(-1L, 8), 16);
        due.is("type(min, 8)", x.type(Long.MIN_VALUE, 8), 24);
        due.is("type(max, 1)", x.type(Long.MAX_VALUE, 1), 25);
        due.is("count(4)", x.count(4), 25);
        due.is("rules()", x.rules(), -10);
        due.is("clear()", x.clear(), 25);
        // A byte is not what it is without its highest bit: 0xe1 is no a, 0xbb no ; and 0xa0 no blank.
        fault("\u00e1;", 0);
        fault("a\u00bb", 1);
        fault("\u00a0a;", 0);
    }

    private static void typeUpTo300() {
        due.sentence("a text (300 bytes at most) .. how many it has. BAD; FULL");
        for (int n = 1; n <= 8; n++) {
            HoldUnless x = new HoldUnless();
            due.is("up to room for " + n, Due.typeAll(x, " ".repeat(300 - n)), 300 - n);
            if (n < 8) {
                due.is("one more than there is room for", x.type(0x2020202020202020L, n + 1), HoldUnless.FULL);
                due.is("count(4)", x.count(4), 300 - n);
            }
            due.is("type(.., " + n + ") to the brim", x.type(0x2020202020202020L, n), 300);
            due.is("one more byte", x.type(32, 1), HoldUnless.FULL);
            due.is("eight more bytes", x.type(32, 8), HoldUnless.FULL);
            due.is("BAD ahead of FULL, 0", x.type(32, 0), HoldUnless.BAD);
            due.is("BAD ahead of FULL, 9", x.type(32, 9), HoldUnless.BAD);
            due.is("count(4)", x.count(4), 300);
            due.is("rules()", x.rules(), 0);
            due.is("room again", x.type(32, 8), 8);
        }
    }

    // ---- promise 3

    private static void clearOfEmptyAndFull() {
        due.sentence("THE TEXT is empty: how many bytes it had");
        HoldUnless x = new HoldUnless();
        due.is("clear() of none", x.clear(), 0);
        x.type(32, 1);
        due.is("clear() of one", x.clear(), 1);
        due.is("clear() again", x.clear(), 0);
        Due.typeAll(x, "?".repeat(300));
        due.is("clear() of 300", x.clear(), 300);
        due.is("count(4)", x.count(4), 0);
        due.is("rules(): nothing of it is left", x.rules(), 0);
        due.is("room again", Due.typeAll(x, " ".repeat(298) + "a;"), 300);
        due.is("rules()", x.rules(), 1);

        due.sentence("clear: THE TEXT is empty, and nothing else is");
        x = Due.told("a;b if a;may c;");
        x.turn(0, 0);
        x.assume(3, 1);
        x.keep(1);
        x.mark(1, 1);
        x.clear();
        Due.typeAll(x, "c;");
        due.is("clear()", x.clear(), 2);
        due.is("count(0)", x.count(0), 2);
        due.is("count(1)", x.count(1), 1);
        due.is("count(2)", x.count(2), 4);
        due.is("count(3)", x.count(3), 8);
        due.is("trace()", x.trace(), 11);
        due.is("back(1)", x.back(1), 1);
        due.is("back(0)", x.back(0), HoldUnless.STATE);
    }

    // ---- promise 4

    private static void itemsAreCounted() {
        due.sentence("how many ITEMS");
        reads("a;", 1);
        reads("may a;", 1);
        reads("never if a;", 1);
        reads("a;may b;never if c;", 3);
        reads(TEN, 10);
        reads("may a;".repeat(50), 50);
        reads(TEN + "may h;".repeat(46), 56);
        reads(" ".repeat(298) + "a;", 1);
        reads("a;" + " ".repeat(298), 1);
    }

    private static void noText() {
        due.sentence("THE TEXT tells all: also an empty one, of blanks alone, of may alone");
        for (String text : new String[] {"", " ", " ".repeat(300)}) {
            HoldUnless x = Due.told("a;never if b;may c;");
            x.assume(5, 1);
            x.keep(0);
            due.is("rules()", Due.read(x, text), 0);
            for (int what = 0; what <= 4; what++) {
                due.is("count(" + what + ")", x.count(what), 0);
            }
            due.is("rule(0, 0)", x.rule(0, 0), HoldUnless.BAD);
            due.is("set(0)", x.set(0), 0);
            due.is("back(0)", x.back(0), HoldUnless.STATE);
        }
        HoldUnless x = Due.told("a;b;");
        due.is("rules() of may", Due.read(x, "may b;may b h;"), 2);
        due.is("count(0)", x.count(0), 0);
        due.is("count(2)", x.count(2), Due.bits("bh"));
    }

    private static void textIsEmptyThen() {
        due.sentence("THE TEXT .. is empty then");
        HoldUnless x = Due.told("a;");
        due.is("count(4)", x.count(4), 0);
        due.is("clear()", x.clear(), 0);
        Due.typeAll(x, "b;c;");
        due.is("rules()", x.rules(), 2);
        due.is("rule(0, 0): no a is left", x.rule(0, 0), 1);
        due.is("rules() at once again", x.rules(), 0);
        due.is("count(0)", x.count(0), 0);

        due.sentence("-10 less FAULT: nothing changes: the text is left, and may go on");
        Due.typeAll(x, "h if a");
        due.is("rules()", x.rules(), -16);
        due.is("rules() again", x.rules(), -16);
        Due.typeAll(x, " b;");
        due.is("rules(), gone on", x.rules(), 1);
        ruleIs(x, 0, 7, "ab", "");
    }

    // ---- sentences, rules

    private static void sentencesAreAToH() {
        due.sentence("SENTENCES are a .. h (0 .. 7)");
        for (char c = 'a'; c <= 'z'; c++) {
            if (c <= 'h') {
                HoldUnless x = Due.told(c + ";d if " + c + ";d unless " + c + ";may " + c + ";");
                due.is("head " + c, x.rule(0, 0), c - 'a');
                due.is("if " + c, x.rule(1, 1), 1 << c - 'a');
                due.is("unless " + c, x.rule(2, 2), 1 << c - 'a');
                due.is("may " + c, x.count(2), 1 << c - 'a');
            } else {
                fault(c + ";", 0);
                fault("d if " + c + ";", 5);
                fault("d if a " + c + ";", 7);
                fault("d unless " + c + ";", 9);
                fault("d unless a " + c + ";", 11);
                fault("may " + c + ";", 4);
                fault("may a " + c + ";", 6);
            }
        }
    }

    private static void tenRulesAtMost() {
        due.sentence("RULES 0 .. (10 at most), in order");
        HoldUnless x = Due.told("a if b;c unless d;never if e;f;g if h;b if a;d unless c;never unless f;h;e if g;");
        int[] heads = {0, 2, 8, 5, 6, 1, 3, 8, 7, 4};
        due.is("count(0)", x.count(0), 10);
        for (int k = 0; k < 10; k++) {
            due.is("rule(" + k + ", 0)", x.rule(k, 0), heads[k]);
        }
        due.is("rule(10, 0)", x.rule(10, 0), HoldUnless.BAD);

        due.sentence("RULES (10 at most): may is no RULE");
        x = Due.told("may a;" + TEN + "may b;may c;");
        due.is("count(0)", x.count(0), 10);
        due.is("count(2)", x.count(2), 7);
        x = Due.told("a;may b;c;");
        due.is("count(0)", x.count(0), 2);
        due.is("rule(1, 0)", x.rule(1, 0), 2);
        due.is("rule(2, 0)", x.rule(2, 0), HoldUnless.BAD);
    }

    private static void eleventhRule() {
        due.sentence("FAULT: .. (an eleventh RULE's first one, too)");
        fault(TEN + "c;", 20);
        fault(TEN + "c", 20);
        fault(TEN + "   c;", 23);
        fault(TEN + "never if a;", 20);
        fault(TEN + "never", 20);
        fault(TEN + "c;d;", 20);
        fault(TEN + "may a;c;", 26);
        fault("may a;" + TEN + "may b; never if a;", 33);
        // A later fault doesn't come ahead of it, an earlier one does.
        fault(TEN + "c if ?;", 20);
        fault(TEN + "may;c;", 23);
        fault("a;b;c;d;e;f;g;h;a;b if;c;", 22);
    }

    private static void setsOfABody() {
        due.sentence("a BODY: SENTENCES .. as sets: one told twice is in it once");
        HoldUnless x = Due.told("a if b b b unless c c;may d d;");
        ruleIs(x, 0, 0, "b", "c");
        due.is("mark(0, 0)", x.mark(0, 0), 2);
        due.is("count(2)", x.count(2), 8);
        x = Due.told("h if a b c d e f g h unless h g f e d c b a;");
        ruleIs(x, 0, 7, "abcdefgh", "abcdefgh");
        due.is("mark(0, 0)", x.mark(0, 0), 16);
        x = Due.told("a if" + " b".repeat(147) + ";");
        ruleIs(x, 0, 0, "b", "");
        x = Due.told("a unless" + " h".repeat(145) + ";");
        ruleIs(x, 0, 0, "", "h");
        x = Due.told("may" + " a".repeat(148) + ";");
        due.is("count(2)", x.count(2), 1);
    }

    private static void oneInBoth() {
        due.sentence("IF .. UNLESS, as sets (one may be in both)");
        HoldUnless x = Due.told("a if b unless b;a if a unless a;never if h unless h;");
        ruleIs(x, 0, 0, "b", "b");
        ruleIs(x, 1, 0, "a", "a");
        ruleIs(x, 2, 8, "h", "h");
        x.assume(1, 1);
        due.is("set(0): by such a rule nothing comes", x.set(0), 2);
        x.assume(7, 1);
        due.is("sets(): and such a ban bans nothing", x.sets(), 1);
    }

    private static void aBanHasNoHead() {
        due.sentence("A BAN has no HEAD");
        HoldUnless x = Due.told("never if a;may a;");
        due.is("rule(0, 0)", x.rule(0, 0), 8);
        due.is("sets()", x.sets(), 1);
        due.is("known(0): nothing hangs on it", x.known(0), HoldUnless.NONE);
        due.is("hangs(0)", x.hangs(0), 0);
        fault("never never if a;", 6);
        fault("never a if b;", 6);
        fault("a never if b;", 2);
    }

    // ---- tokens

    private static void blanksBetweenTokens() {
        due.sentence("blanks (32) between TOKENS");
        String[] texts = {"a if b unless c;may d;", "  a   if  b  unless   c  ;  may  d  ;  ", "a if b unless c ;may d ;"};
        for (String text : texts) {
            HoldUnless x = Due.told(text);
            ruleIs(x, 0, 0, "b", "c");
            due.is("count(2)", x.count(2), 8);
        }
        // Words without a blank between them are one word; a ; needs none.
        fault("aif b;", 0);
        fault("a ifb;", 2);
        fault("a if bc;", 5);
        fault("a if b unlessc;", 7);
        fault("a if bunless c;", 5);
        fault("neverif a;", 0);
        fault("maya;", 0);
        fault("may ab;", 4);
        reads("a;b;may c;never if d;", 4);
    }

    private static void otherBytesAreFaults() {
        due.sentence("FAULT: .. of a byte that begins none .. that TOKEN's (place)");
        for (int value = 0; value < 256; value++) {
            char c = (char) value;
            boolean letter = c >= 'a' && c <= 'z';
            if (c == ' ') {
                reads(" a;", 1);
                reads("a ;", 1);
                reads("a; ", 1);
            } else if (c == ';') {
                fault(";a;", 0);
                fault("a;;", 2);
                fault("a; ;", 3);
            } else if (letter) {
                // It makes a longer word of a, and begins a rule that has no end.
                fault(c + "a;", 0);
                fault("a" + c + ";", 0);
                fault("a;" + c, c <= 'h' ? 3 : 2);
            } else {
                fault(c + "a;", 0);
                fault("a" + c + ";", 1);
                fault("a;" + c, 2);
                fault("a if b" + c + " unless c;", 6);
                fault("a if  " + c + "b;", 6);
                fault("may a " + c + ";", 6);
                fault("never" + c + "if a;", 5);
                fault("a;  " + c, 4);
            }
        }
    }

    private static void itemsEndInSemicolon() {
        due.sentence("ITEMS, each ended by ;");
        fault("a", 1);
        fault("a if b", 6);
        fault("a unless b", 10);
        fault("never if b", 10);
        fault("may a", 5);
        fault("a;b", 3);
        fault("may a;may b", 11);
        fault("a if b c if d;", 9);
        fault("a may b;", 2);
        fault(";", 0);
        fault(" ;", 1);
        fault("a;;b;", 2);
        fault("may a;;", 6);
    }

    private static void oneSentenceOrMore() {
        due.sentence("then perhaps if and one SENTENCE or more");
        reads("a;", 1);
        reads("a if b;", 1);
        reads("a if a b c d e f g h;", 1);
        fault("a if;", 4);
        fault("a if ;", 5);
        fault("a if unless b;", 5);
        due.sentence("then perhaps unless and one or more");
        reads("a unless b;", 1);
        reads("a if b unless c;", 1);
        reads("a unless a b c d e f g h;", 1);
        fault("a unless;", 8);
        fault("a if b unless;", 13);
        fault("a if b unless ;", 14);
        fault("a unless b if c;", 11);
        due.sentence("may and one SENTENCE or more");
        reads("may a;", 1);
        reads("may a b c d e f g h;", 1);
        fault("may;", 3);
        fault("may  ;", 5);
    }

    private static void neverWithoutEither() {
        due.sentence("(never without either: not so)");
        fault("never;", 5);
        fault("never ;", 6);
        fault("a;never;", 7);
        fault("never", 5);
        fault("never if;", 8);
        fault("never unless;", 12);
        fault("never if unless a;", 9);
        fault("never if a unless;", 17);
        reads("never if a;", 1);
        reads("never unless a;", 1);
        reads("never if a unless b;", 1);
    }

    /** Which tokens can stand behind a beginning: s a sentence, i if, u unless, n never, m may, ; */
    private static void behind(String beginning, String can) {
        String[] tokens = {"c", "if", "unless", "never", "may", ";", "word", "?"};
        String kinds = "siunm;w?";
        for (int i = 0; i < tokens.length; i++) {
            String text = beginning + " " + tokens[i];
            if (can.indexOf(kinds.charAt(i)) < 0) {
                fault(text, beginning.length() + 1);
                fault(text + " a;", beginning.length() + 1);
            } else if (tokens[i].equals(";")) {
                reads(text, (int) text.chars().filter(c -> c == ';').count());
            } else {
                fault(text, text.length());
            }
        }
    }

    private static void everyTokenBehindEveryOther() {
        due.sentence("FAULT: the place of the first byte of the first TOKEN that can't stand there");
        for (String ahead : new String[] {"", "a;", "may a;", "never if a;", "b if c unless d; "}) {
            behind(ahead, "snm");
            behind(ahead + "a", "iu;");
            behind(ahead + "a if", "s");
            behind(ahead + "a if b", "su;");
            behind(ahead + "a if b d", "su;");
            behind(ahead + "a unless", "s");
            behind(ahead + "a unless b", "s;");
            behind(ahead + "a if b unless", "s");
            behind(ahead + "a if b unless d", "s;");
            behind(ahead + "never", "iu");
            behind(ahead + "never if", "s");
            behind(ahead + "never if b", "su;");
            behind(ahead + "never unless", "s");
            behind(ahead + "never unless b", "s;");
            behind(ahead + "never if b unless", "s");
            behind(ahead + "never if b unless d", "s;");
            behind(ahead + "may", "s");
            behind(ahead + "may a", "s;");
        }
        behind(TEN, "m");
    }

    private static void wordsThatAreNone() {
        due.sentence("FAULT: .. a word that is none of these, that TOKEN's (place)");
        String[] words = {"i", "fi", "iff", "ifif", "u", "un", "unles", "unlesss", "unlless", "nless", "nevernever", "neve",
            "nevr", "ever", "neverr", "ma", "ay", "mayy", "mai", "mayb", "aa", "ab", "ha", "hh", "ai", "then", "and", "or"};
        for (String word : words) {
            fault(word + " a;", 0);
            fault("  " + word + ";", 2);
            fault("a " + word + " b;", 2);
            fault("a if " + word + ";", 5);
            fault("a if b " + word + " c;", 7);
            fault("may a " + word + ";", 6);
            fault("never " + word + " a;", 6);
        }
        for (String word : new String[] {"If", "IF", "iF", "Unless", "Never", "May", "A", "H"}) {
            fault(word + " a;", 0);
        }
        // The letters ahead of a capital one are a word by themselves.
        fault("a iF b;", 2);
        fault("a ifF b;", 4);
        fault("maY a;", 0);
        fault("mayY a;", 3);
        fault("aB;", 1);
        fault("may a1;", 5);
    }

    private static void longWords() {
        due.sentence("a word that is none of these: however long, and whatever it ends in");
        for (String end : new String[] {"a", "h", "if", "unless", "never", "may"}) {
            for (int many = 1; many + end.length() + 2 <= 300; many++) {
                fault("a".repeat(many) + end + " ;", 0);
            }
        }
        for (String word : new String[] {"if", "unless"}) {
            for (int many = 1; many <= 20; many++) {
                fault("b " + "x".repeat(many) + word + " a;", 2);
                fault("b " + word + "x".repeat(many) + " a;", 2);
            }
        }
        fault("a".repeat(300), 0);
        fault("a " + "z".repeat(298), 2);
    }

    private static void firstFaultCounts() {
        due.sentence("FAULT: .. the first TOKEN that can't stand there");
        fault("? ? ?", 0);
        fault("a b c;", 2);
        fault("a if ? if;", 5);
        fault("may a;b c;never;", 8);
        fault("a ;; ?", 3);
        fault("a if b unless c unless d;i;", 16);
        // What stood well ahead of it doesn't count, though it was an item of its own.
        HoldUnless x = new HoldUnless();
        due.is("rules()", Due.read(x, "a;may b;c if;"), -10 - 12);
        due.is("count(0)", x.count(0), 0);
        due.is("count(2)", x.count(2), 0);
    }

    private static void textEndsTooEarly() {
        due.sentence("FAULT: .. the text's length, if it ends too early");
        String[] texts = {"a", "a if", "a if b", "a if b c", "a unless", "a unless b", "a if b unless", "a if b unless c",
            "never", "never if", "never if a", "never unless", "never unless a", "never if a unless", "may", "may a", "may a b"};
        for (String text : texts) {
            fault(text, text.length());
            fault(text + "   ", text.length() + 3);
            fault("a;" + text, text.length() + 2);
            fault(" may a ; " + text + " ", text.length() + 10);
        }
        // A word that is cut off is a word that is none of these.
        fault("a unl", 2);
        fault("nev", 0);
        fault("a if b unles", 7);
        fault("a;m", 2);
    }

    private static void faultAtTheFarEnd() {
        due.sentence("the text's length: also of 300 bytes");
        fault(" ".repeat(299) + "a", 300);
        fault("a" + " ".repeat(299), 300);
        fault(" ".repeat(297) + "may", 300);
        fault("may a;".repeat(49) + "may  a", 300);
        due.sentence("the place of the first byte: also the last one of 300");
        fault(" ".repeat(299) + ";", 299);
        fault(" ".repeat(299) + "?", 299);
        fault(" ".repeat(299) + "i", 299);
        fault("may" + " ".repeat(296) + ";", 299);
        fault(TEN + " ".repeat(279) + "a", 299);
        HoldUnless x = new HoldUnless();
        due.is("rules()", Due.read(x, " ".repeat(299) + "a"), -310);
        due.is("clear()", x.clear(), 300);
    }
}
