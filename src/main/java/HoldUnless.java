/**
 * Sentences that hold unless others do: rules, bans and free sentences told by a text, and the sets
 * of sentences that hold themselves up by them. Sets of sentences and of rules are bits of an int.
 */
public final class HoldUnless {
    public static final int BAD = -1, STATE = -2, FULL = -3, NONE = -9;
    public static final int NO = -1000000;

    private static final int SENTENCES = 8;
    private static final int ALL = 255;
    private static final int BAN = 8;
    private static final int MAX_RULES = 10;
    private static final int MAX_TEXT = 300;
    private static final int MAX_CHANGES = 3;
    private static final int IMAGES = 2;
    private static final int FAULT_BASE = -10;

    private final Text text = new Text();
    private RuleBook book = new RuleBook();
    // A text is read into the draft, so that a fault in it leaves the book as it was.
    private RuleBook draft = new RuleBook();
    private int on;
    private int assumed;
    private final int[] imageOn = new int[IMAGES];
    private final int[] imageAssumed = new int[IMAGES];
    private int imagesKept;
    private long traceSum;

    public HoldUnless() {
    }

    // ---- rules

    public int type(long v, int n) {
        if (n < 1 || n > 8) {
            return BAD;
        }
        if (text.length + n > MAX_TEXT) {
            return FULL;
        }
        for (int shift = 8 * (n - 1); shift >= 0; shift -= 8) {
            text.append((byte) (v >> shift));
        }
        return text.length;
    }

    public int clear() {
        int had = text.length;
        text.length = 0;
        return had;
    }

    public int rules() {
        int items = text.readInto(draft);
        if (items == NONE) {
            return FAULT_BASE - text.tokenPlace;
        }
        RuleBook old = book;
        book = draft;
        draft = old;
        on = (1 << book.size) - 1;
        assumed = 0;
        imagesKept = 0;
        text.length = 0;
        return items;
    }

    public int rule(int k, int what) {
        if (!isRule(k)) {
            return BAD;
        }
        switch (what) {
            case 0:
                return book.head[k];
            case 1:
                return book.ifs[k];
            case 2:
                return book.unless[k];
            case 3:
                return bitOf(on, k);
            default:
                return BAD;
        }
    }

    public int turn(int k, int on) {
        if (!isRule(k) || !isBit(on)) {
            return BAD;
        }
        int was = bitOf(this.on, k);
        this.on = withBit(this.on, k, on);
        return was;
    }

    public int assume(int a, int is) {
        if (!isSentence(a) || !isBit(is)) {
            return BAD;
        }
        int was = bitOf(assumed, a);
        assumed = withBit(assumed, a, is);
        return was;
    }

    // ---- sets that stand

    public int sets() {
        int many = 0;
        for (int set = 0; set <= ALL; set++) {
            if (book.upholds(set, on, assumed)) {
                many++;
            }
        }
        return many;
    }

    public int set(int i) {
        return i < 0 ? BAD : standingSet(i);
    }

    public int stands(int set) {
        if (!isSet(set)) {
            return BAD;
        }
        return book.upholds(set, on, assumed) ? 1 : 0;
    }

    public int holds(int what) {
        if (!isBit(what)) {
            return BAD;
        }
        int inSome = 0;
        int inAll = ALL;
        for (int set = 0; set <= ALL; set++) {
            if (book.upholds(set, on, assumed)) {
                inSome |= set;
                inAll &= set;
            }
        }
        return what == 0 ? inSome : inAll;
    }

    public int known(int a) {
        if (!isSentence(a)) {
            return BAD;
        }
        int less = 0;
        int more = ALL;
        // Less only grows and more only shrinks, so at most 16 rounds change one.
        for (int round = 0; round <= 2 * SENTENCES; round++) {
            int lessBefore = less;
            int moreBefore = more;
            less = book.comesOf(assumed, on, more);
            more = book.comesOf(assumed | book.may, on, less);
            if (less == lessBefore && more == moreBefore) {
                break;
            }
        }
        if (bitOf(less, a) == 1) {
            return 1;
        }
        return bitOf(more, a) == 0 ? 0 : NONE;
    }

    public int why(int i, int a, int what) {
        if (i < 0 || !isSentence(a) || !isBit(what)) {
            return BAD;
        }
        int set = standingSet(i);
        if (set == NONE || bitOf(set, a) == 0) {
            return NONE;
        }
        int came = assumed | (book.may & set);
        if (bitOf(came, a) == 1) {
            return what == 0 ? 0 : NONE;
        }
        // Every round brings a sentence, or none ever comes again.
        for (int round = 1; round <= SENTENCES; round++) {
            int k = book.firstRuleBringing(a, came, on, set);
            if (k != NONE) {
                return what == 0 ? round : k;
            }
            came = book.nextRound(came, on, set);
        }
        return NONE;
    }

    public int hangs(int what) {
        if (!isBit(what)) {
            return BAD;
        }
        int hanging = 0;
        for (int a = 0; a < SENTENCES; a++) {
            boolean does = what == 0 ? book.hangsByIf(a, on) : book.isTangled(a, on);
            if (does) {
                hanging |= 1 << a;
            }
        }
        return hanging;
    }

    // ---- fewest changes

    public int explains(int a, int some) {
        if (!isSentence(a) || !isSet(some)) {
            return BAD;
        }
        for (int many = 0; many <= MAX_CHANGES; many++) {
            for (int facts = 0; facts <= some; facts++) {
                boolean fits = (facts & ~some) == 0 && Integer.bitCount(facts) == many;
                if (fits && standsWith(a, assumed | facts)) {
                    return facts;
                }
            }
        }
        return NONE;
    }

    public int givesUp() {
        int best = NONE;
        for (int set = 0; set <= ALL; set++) {
            // A set stands only when all rules that it breaks are off, and to put off more rules
            // only takes from what comes: so these are the fewest for this set, if any are.
            int broken = book.brokenBy(set, on);
            boolean fits = Integer.bitCount(broken) <= MAX_CHANGES && isBetter(broken, best);
            if (fits && book.upholds(set, on & ~broken, assumed)) {
                best = broken;
            }
        }
        return best;
    }

    public int idle(int k) {
        if (!isRule(k)) {
            return BAD;
        }
        if (bitOf(on, k) == 0) {
            return STATE;
        }
        return sameSetsWith(withBit(on, k, 0), assumed) ? 1 : 0;
    }

    public int alike(int image) {
        if (!isImage(image)) {
            return BAD;
        }
        if (bitOf(imagesKept, image) == 0) {
            return STATE;
        }
        return sameSetsWith(imageOn[image], imageAssumed[image]) ? 1 : 0;
    }

    // ---- kinds, images

    public int mark(int kind, int k) {
        if (!isRule(k)) {
            return NO;
        }
        switch (kind) {
            case 0:
                return markOfRule(k);
            case 1:
                return markOfLaw(k);
            case 2:
                return markOfHabit(k);
            case 3:
                return markOfDecree(k);
            case 4:
                return markOfCustom(k);
            case 5:
                return markOfOath(k);
            default:
                return NO;
        }
    }

    public int keep(int image) {
        if (!isImage(image)) {
            return BAD;
        }
        imageOn[image] = on;
        imageAssumed[image] = assumed;
        imagesKept |= 1 << image;
        return Integer.bitCount(on);
    }

    public int back(int image) {
        if (!isImage(image)) {
            return BAD;
        }
        if (bitOf(imagesKept, image) == 0) {
            return STATE;
        }
        on = imageOn[image];
        assumed = imageAssumed[image];
        return Integer.bitCount(on);
    }

    public int count(int what) {
        switch (what) {
            case 0:
                return book.size;
            case 1:
                return Integer.bitCount(on);
            case 2:
                return book.may;
            case 3:
                return assumed;
            case 4:
                return text.length;
            default:
                return BAD;
        }
    }

    public long trace() {
        return traceSum;
    }

    // ---- what the calls share

    private boolean isRule(int k) {
        return k >= 0 && k < book.size;
    }

    private static boolean isSentence(int a) {
        return a >= 0 && a < SENTENCES;
    }

    private static boolean isSet(int set) {
        return set >= 0 && set <= ALL;
    }

    private static boolean isImage(int image) {
        return image >= 0 && image < IMAGES;
    }

    private static boolean isBit(int number) {
        return number == 0 || number == 1;
    }

    private static int bitOf(int bits, int place) {
        return (bits >> place) & 1;
    }

    private static int withBit(int bits, int place, int bit) {
        return (bits & ~(1 << place)) | (bit << place);
    }

    private static boolean isBetter(int bits, int best) {
        if (best == NONE) {
            return true;
        }
        int fewer = Integer.bitCount(bits) - Integer.bitCount(best);
        return fewer < 0 || (fewer == 0 && bits < best);
    }

    private int standingSet(int i) {
        int ahead = 0;
        for (int set = 0; set <= ALL; set++) {
            if (book.upholds(set, on, assumed)) {
                if (ahead == i) {
                    return set;
                }
                ahead++;
            }
        }
        return NONE;
    }

    private boolean standsWith(int a, int facts) {
        int needed = facts | (1 << a);
        // This steps through the sets that have all of the needed ones, rising.
        for (int set = needed; set <= ALL; set = (set + 1) | needed) {
            if (book.upholds(set, on, facts)) {
                return true;
            }
        }
        return false;
    }

    private boolean sameSetsWith(int otherOn, int otherAssumed) {
        for (int set = 0; set <= ALL; set++) {
            if (book.upholds(set, on, assumed) != book.upholds(set, otherOn, otherAssumed)) {
                return false;
            }
        }
        return true;
    }

    private int markOfRule(int k) {
        traceSum += 1;
        return Integer.bitCount(book.ifs[k]) + Integer.bitCount(book.unless[k]);
    }

    private int markOfLaw(int k) {
        traceSum += 10;
        return markOfRule(k) * 2;
    }

    private int markOfHabit(int k) {
        traceSum += 100;
        return markOfRule(k) - Integer.bitCount(book.unless[k]);
    }

    private int markOfDecree(int k) {
        traceSum += 1000;
        return markOfLaw(k) + k;
    }

    private int markOfCustom(int k) {
        traceSum += 10000;
        return markOfHabit(k) + bitOf(on, k);
    }

    private int markOfOath(int k) {
        traceSum += 100000;
        return markOfRule(k) + book.head[k];
    }

    /** The rules in order, and the sentences that may hold by themselves. */
    private static final class RuleBook {
        private int size;
        private int may;
        private final int[] head = new int[MAX_RULES];
        private final int[] ifs = new int[MAX_RULES];
        private final int[] unless = new int[MAX_RULES];

        private void forgetAll() {
            size = 0;
            may = 0;
        }

        private boolean hasRoom() {
            return size < MAX_RULES;
        }

        private void add(int newHead, int newIfs, int newUnless) {
            if (hasRoom()) {
                head[size] = newHead;
                ifs[size] = newIfs;
                unless[size] = newUnless;
                size++;
            }
        }

        private boolean bodyHolds(int k, int came, int against) {
            return (ifs[k] & ~came) == 0 && (unless[k] & against) == 0;
        }

        /** What has come, and the heads of the rules that it brings, no unless of theirs in against. */
        private int nextRound(int came, int on, int against) {
            int next = came;
            for (int k = 0; k < size; k++) {
                if (bitOf(on, k) == 1 && head[k] != BAN && bodyHolds(k, came, against)) {
                    next |= 1 << head[k];
                }
            }
            return next;
        }

        private int comesOf(int start, int on, int against) {
            int came = start;
            for (int round = 0; round < SENTENCES; round++) {
                int next = nextRound(came, on, against);
                if (next == came) {
                    break;
                }
                came = next;
            }
            return came;
        }

        /** The bans that a set breaks, and the rules whose body holds in it without their head. */
        private int brokenBy(int set, int on) {
            int broken = 0;
            for (int k = 0; k < size; k++) {
                // A ban's head is no sentence, so its bit is in no set.
                if (bitOf(on, k) == 1 && bitOf(set, head[k]) == 0 && bodyHolds(k, set, set)) {
                    broken |= 1 << k;
                }
            }
            return broken;
        }

        /** Whether a set stands; brokenBy is asked first because it settles most sets in one pass. */
        private boolean upholds(int set, int on, int assumed) {
            return (assumed & ~set) == 0
                    && brokenBy(set, on) == 0
                    && comesOf(assumed | (may & set), on, set) == set;
        }

        private int firstRuleBringing(int a, int came, int on, int against) {
            for (int k = 0; k < size; k++) {
                if (bitOf(on, k) == 1 && head[k] == a && bodyHolds(k, came, against)) {
                    return k;
                }
            }
            return NONE;
        }

        private int ifsUnder(int heads, int on) {
            return partUnder(ifs, heads, on);
        }

        private int unlessUnder(int heads, int on) {
            return partUnder(unless, heads, on);
        }

        private int partUnder(int[] part, int heads, int on) {
            int under = 0;
            for (int k = 0; k < size; k++) {
                if (bitOf(on, k) == 1 && bitOf(heads, head[k]) == 1) {
                    under |= part[k];
                }
            }
            return under;
        }

        private boolean hangsByIf(int a, int on) {
            int reached = ifsUnder(1 << a, on);
            for (int step = 0; step < SENTENCES; step++) {
                reached |= ifsUnder(reached, on);
            }
            return bitOf(reached, a) == 1;
        }

        private boolean isTangled(int a, int on) {
            int even = 1 << a;
            int odd = 0;
            // Sixteen steps go through every sentence, come to by evenly and by oddly many unless.
            for (int step = 0; step < 2 * SENTENCES; step++) {
                int nextEven = even | ifsUnder(even, on) | unlessUnder(odd, on);
                odd |= ifsUnder(odd, on) | unlessUnder(even, on);
                even = nextEven;
            }
            return bitOf(odd, a) == 1;
        }
    }

    /** The text's bytes, and the reading of them token by token. */
    private static final class Text {
        // Tokens 0 .. 7 are the sentences.
        private static final int IF = 8;
        private static final int UNLESS = 9;
        private static final int NEVER = 10;
        private static final int MAY = 11;
        private static final int ITEM_END = 12;
        private static final int TEXT_END = 13;
        private static final int NO_TOKEN = 14;

        // Words as the numbers that their letters' bytes make, the first letter highest.
        private static final long IF_WORD = 0x6966L;
        private static final long UNLESS_WORD = 0x756e6c657373L;
        private static final long NEVER_WORD = 0x6e65766572L;
        private static final long MAY_WORD = 0x6d6179L;

        private final byte[] bytes = new byte[MAX_TEXT];
        private int length;
        private int place;
        private int token;
        private int tokenPlace;

        private void append(byte next) {
            if (length >= 0 && length < MAX_TEXT) {
                bytes[length] = next;
                length++;
            }
        }

        /** How many items there are; NONE at a fault, which is the token that was read last. */
        private int readInto(RuleBook target) {
            target.forgetAll();
            place = 0;
            advance();
            int items = 0;
            while (token != TEXT_END && items < MAX_TEXT) {
                boolean isRead = token == MAY ? readMay(target) : readRule(target);
                if (!isRead) {
                    return NONE;
                }
                items++;
            }
            return items;
        }

        private boolean readMay(RuleBook target) {
            advance();
            int free = readSentences();
            if (free == 0 || token != ITEM_END) {
                return false;
            }
            target.may |= free;
            advance();
            return true;
        }

        private boolean readRule(RuleBook target) {
            boolean begins = token == NEVER || isSentence(token);
            if (!begins || !target.hasRoom()) {
                return false;
            }
            int newHead = token == NEVER ? BAN : token;
            int newIfs = 0;
            int newUnless = 0;
            advance();
            if (token == IF) {
                advance();
                newIfs = readSentences();
                if (newIfs == 0) {
                    return false;
                }
            }
            if (token == UNLESS) {
                advance();
                newUnless = readSentences();
                if (newUnless == 0) {
                    return false;
                }
            }
            boolean emptyBan = newHead == BAN && newIfs == 0 && newUnless == 0;
            if (emptyBan || token != ITEM_END) {
                return false;
            }
            target.add(newHead, newIfs, newUnless);
            advance();
            return true;
        }

        private int readSentences() {
            int read = 0;
            for (int many = 0; many < MAX_TEXT && isSentence(token); many++) {
                read |= 1 << token;
                advance();
            }
            return read;
        }

        private void advance() {
            while (place < length && byteAt(place) == ' ') {
                place++;
            }
            tokenPlace = place;
            if (place >= length) {
                token = TEXT_END;
            } else if (byteAt(place) == ';') {
                token = ITEM_END;
                place++;
            } else if (isLetter(byteAt(place))) {
                readWord();
            } else {
                token = NO_TOKEN;
            }
        }

        private void readWord() {
            // A word of more than eight letters loses its first ones, but stays longer than all of ours.
            long word = 0;
            while (place < length && isLetter(byteAt(place))) {
                word = (word << 8) | byteAt(place);
                place++;
            }
            token = tokenOf(word);
        }

        private static int tokenOf(long word) {
            if (word >= 'a' && word < 'a' + SENTENCES) {
                return (int) (word - 'a');
            }
            if (word == IF_WORD) {
                return IF;
            }
            if (word == UNLESS_WORD) {
                return UNLESS;
            }
            if (word == NEVER_WORD) {
                return NEVER;
            }
            return word == MAY_WORD ? MAY : NO_TOKEN;
        }

        private int byteAt(int index) {
            return index >= 0 && index < MAX_TEXT ? bytes[index] & 255 : 0;
        }

        private static boolean isLetter(int value) {
            return value >= 'a' && value <= 'z';
        }
    }
}
