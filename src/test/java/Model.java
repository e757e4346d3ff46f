import java.util.ArrayList;
import java.util.HashMap;
import java.util.List;
import java.util.Map;
import java.util.TreeSet;
import java.util.regex.Matcher;
import java.util.regex.Pattern;

/**
 * The document once more, word by word and without care for speed, to compare answers with.
 * It goes other ways than the class where it can: regular expressions for the text, every change
 * tried out for the fewest ones, walks of a bounded length for what hangs on itself.
 */
final class Model {
    record Rule(int head, TreeSet<Integer> ifs, TreeSet<Integer> unless) {
    }

    record Image(TreeSet<Integer> off, TreeSet<Integer> assumed) {
    }

    private static final Pattern TOKEN = Pattern.compile("[a-z]+|[^ ]", Pattern.DOTALL);
    private static final Pattern ITEMS =
            Pattern.compile("(?:(?:s(?:is+)?(?:us+)?|n(?:is+(?:us+)?|us+)|ms+);)*");

    private String text = "";
    private List<Rule> rules = new ArrayList<>();
    private TreeSet<Integer> may = new TreeSet<>();
    private TreeSet<Integer> off = new TreeSet<>();
    private TreeSet<Integer> assumed = new TreeSet<>();
    private final Map<Integer, Image> images = new HashMap<>();
    private long trace;

    // ---- the text

    int type(long v, int n) {
        if (n < 1 || n > 8) {
            return -1;
        }
        if (text.length() + n > 300) {
            return -3;
        }
        StringBuilder more = new StringBuilder();
        for (int i = 0; i < n; i++) {
            more.insert(0, (char) (v & 255));
            v >>>= 8;
        }
        text += more;
        return text.length();
    }

    int clear() {
        int had = text.length();
        text = "";
        return had;
    }

    private static char kindOf(String token) {
        return switch (token) {
            case "if" -> 'i';
            case "unless" -> 'u';
            case "never" -> 'n';
            case "may" -> 'm';
            case ";" -> ';';
            default -> token.matches("[a-h]") ? 's' : '?';
        };
    }

    private int fault() {
        Matcher tokens = TOKEN.matcher(text);
        StringBuilder kinds = new StringBuilder();
        int begun = 0;
        while (tokens.find()) {
            char kind = kindOf(tokens.group());
            boolean first = kinds.length() == 0 || kinds.charAt(kinds.length() - 1) == ';';
            if (first && (kind == 's' || kind == 'n') && ++begun > 10) {
                return tokens.start();
            }
            kinds.append(kind);
            Matcher items = ITEMS.matcher(kinds);
            if (!items.matches() && !items.hitEnd()) {
                return tokens.start();
            }
        }
        return ITEMS.matcher(kinds).matches() ? -1 : text.length();
    }

    private static TreeSet<Integer> sentencesBehind(String item, String word) {
        TreeSet<Integer> found = new TreeSet<>();
        Matcher part = Pattern.compile("\\b" + word + "((?: +[a-h]\\b)+)").matcher(item);
        if (part.find()) {
            for (char c : part.group(1).replace(" ", "").toCharArray()) {
                found.add(c - 'a');
            }
        }
        return found;
    }

    int rules() {
        int fault = fault();
        if (fault >= 0) {
            return -10 - fault;
        }
        rules = new ArrayList<>();
        may = new TreeSet<>();
        off = new TreeSet<>();
        assumed = new TreeSet<>();
        images.clear();
        int many = 0;
        for (String item : text.split(";")) {
            String trimmed = item.trim();
            if (trimmed.isEmpty()) {
                continue;
            }
            many++;
            if (trimmed.startsWith("may")) {
                may.addAll(sentencesBehind(trimmed, "may"));
            } else {
                int head = trimmed.startsWith("never") ? 8 : trimmed.charAt(0) - 'a';
                rules.add(new Rule(head, sentencesBehind(trimmed, "if"), sentencesBehind(trimmed, "unless")));
            }
        }
        text = "";
        return many;
    }

    // ---- rules

    private static int bits(Iterable<Integer> set) {
        int bits = 0;
        for (int one : set) {
            bits |= 1 << one;
        }
        return bits;
    }

    private static TreeSet<Integer> setOf(int bits) {
        TreeSet<Integer> set = new TreeSet<>();
        for (int i = 0; i < 31; i++) {
            if ((bits & 1 << i) != 0) {
                set.add(i);
            }
        }
        return set;
    }

    private boolean noRule(int k) {
        return k < 0 || k >= rules.size();
    }

    int rule(int k, int what) {
        if (noRule(k) || what < 0 || what > 3) {
            return -1;
        }
        Rule rule = rules.get(k);
        return switch (what) {
            case 0 -> rule.head;
            case 1 -> bits(rule.ifs);
            case 2 -> bits(rule.unless);
            default -> off.contains(k) ? 0 : 1;
        };
    }

    int turn(int k, int on) {
        if (noRule(k) || on < 0 || on > 1) {
            return -1;
        }
        boolean changed = on == 1 ? off.remove(k) : off.add(k);
        return changed ? 1 - on : on;
    }

    int assume(int a, int is) {
        if (a < 0 || a > 7 || is < 0 || is > 1) {
            return -1;
        }
        boolean changed = is == 0 ? assumed.remove(a) : assumed.add(a);
        return changed ? 1 - is : is;
    }

    // ---- sets that stand

    private static boolean meets(TreeSet<Integer> one, TreeSet<Integer> other) {
        for (int x : one) {
            if (other.contains(x)) {
                return true;
            }
        }
        return false;
    }

    private TreeSet<Integer> comes(TreeSet<Integer> start, TreeSet<Integer> out, TreeSet<Integer> against) {
        TreeSet<Integer> came = new TreeSet<>(start);
        boolean grew = true;
        while (grew) {
            grew = false;
            for (int k = 0; k < rules.size(); k++) {
                Rule rule = rules.get(k);
                if (!out.contains(k) && rule.head < 8 && !meets(rule.unless, against) && came.containsAll(rule.ifs)) {
                    grew |= came.add(rule.head);
                }
            }
        }
        return came;
    }

    private boolean stands(TreeSet<Integer> set, TreeSet<Integer> out, TreeSet<Integer> facts) {
        TreeSet<Integer> start = new TreeSet<>(may);
        start.retainAll(set);
        start.addAll(facts);
        if (!comes(start, out, set).equals(set)) {
            return false;
        }
        for (int k = 0; k < rules.size(); k++) {
            Rule rule = rules.get(k);
            if (!out.contains(k) && rule.head == 8 && set.containsAll(rule.ifs) && !meets(rule.unless, set)) {
                return false;
            }
        }
        return true;
    }

    private List<Integer> all(TreeSet<Integer> out, TreeSet<Integer> facts) {
        List<Integer> all = new ArrayList<>();
        int needed = bits(facts);
        for (int set = 0; set < 256; set++) {
            if ((set & needed) == needed && stands(setOf(set), out, facts)) {
                all.add(set);
            }
        }
        return all;
    }

    int sets() {
        return all(off, assumed).size();
    }

    int set(int i) {
        if (i < 0) {
            return -1;
        }
        List<Integer> all = all(off, assumed);
        return i < all.size() ? all.get(i) : -9;
    }

    int stands(int set) {
        if (set < 0 || set > 255) {
            return -1;
        }
        return stands(setOf(set), off, assumed) ? 1 : 0;
    }

    int holds(int what) {
        if (what < 0 || what > 1) {
            return -1;
        }
        int some = 0;
        int every = 255;
        for (int set : all(off, assumed)) {
            some |= set;
            every &= set;
        }
        return what == 0 ? some : every;
    }

    int known(int a) {
        if (a < 0 || a > 7) {
            return -1;
        }
        TreeSet<Integer> withMay = new TreeSet<>(assumed);
        withMay.addAll(may);
        TreeSet<Integer> less = new TreeSet<>();
        TreeSet<Integer> more = setOf(255);
        for (int i = 0; i < 100; i++) {
            less = comes(assumed, off, more);
            more = comes(withMay, off, less);
        }
        return less.contains(a) ? 1 : more.contains(a) ? -9 : 0;
    }

    int why(int i, int a, int what) {
        if (i < 0 || a < 0 || a > 7 || what < 0 || what > 1) {
            return -1;
        }
        List<Integer> all = all(off, assumed);
        if (i >= all.size() || !setOf(all.get(i)).contains(a)) {
            return -9;
        }
        TreeSet<Integer> set = setOf(all.get(i));
        Map<Integer, Integer> roundOf = new HashMap<>();
        for (int b : set) {
            if (assumed.contains(b) || may.contains(b)) {
                roundOf.put(b, 0);
            }
        }
        for (int round = 1; round < 20; round++) {
            for (int k = 0; k < rules.size(); k++) {
                Rule rule = rules.get(k);
                boolean brings = !off.contains(k) && rule.head < 8 && !meets(rule.unless, set);
                for (int b : rule.ifs) {
                    brings &= roundOf.getOrDefault(b, 99) < round;
                }
                if (brings && !roundOf.containsKey(rule.head)) {
                    roundOf.put(rule.head, round);
                    if (rule.head == a) {
                        return what == 0 ? round : k;
                    }
                }
            }
        }
        return what == 0 ? 0 : -9;
    }

    /** Whether there is a walk of some steps, 1 .. 40, from a to itself, by unless as often as told. */
    private boolean walks(int a, boolean odd) {
        // States are sentence * 2 + whether unless was passed an odd number of times.
        TreeSet<Integer> at = new TreeSet<>(List.of(a * 2));
        for (int step = 1; step <= 40; step++) {
            TreeSet<Integer> next = new TreeSet<>();
            for (int state : at) {
                for (int k = 0; k < rules.size(); k++) {
                    Rule rule = rules.get(k);
                    if (off.contains(k) || rule.head != state / 2) {
                        continue;
                    }
                    for (int b : rule.ifs) {
                        next.add(b * 2 + state % 2);
                    }
                    if (odd) {
                        for (int b : rule.unless) {
                            next.add(b * 2 + 1 - state % 2);
                        }
                    }
                }
            }
            if (next.contains(a * 2 + (odd ? 1 : 0))) {
                return true;
            }
            at = next;
        }
        return false;
    }

    int hangs(int what) {
        if (what < 0 || what > 1) {
            return -1;
        }
        int bits = 0;
        for (int a = 0; a < 8; a++) {
            bits |= walks(a, what == 1) ? 1 << a : 0;
        }
        return bits;
    }

    // ---- fewest changes

    int explains(int a, int some) {
        if (a < 0 || a > 7 || some < 0 || some > 255) {
            return -1;
        }
        for (int many = 0; many <= 3; many++) {
            for (int pick = 0; pick < 256; pick++) {
                if ((pick | some) != some || Integer.bitCount(pick) != many) {
                    continue;
                }
                TreeSet<Integer> facts = setOf(pick);
                facts.addAll(assumed);
                for (int set : all(off, facts)) {
                    if (setOf(set).contains(a)) {
                        return pick;
                    }
                }
            }
        }
        return -9;
    }

    int givesUp() {
        for (int many = 0; many <= 3; many++) {
            for (int pick = 0; pick < 1 << rules.size(); pick++) {
                if (Integer.bitCount(pick) != many || meets(setOf(pick), off)) {
                    continue;
                }
                TreeSet<Integer> out = setOf(pick);
                out.addAll(off);
                if (!all(out, assumed).isEmpty()) {
                    return pick;
                }
            }
        }
        return -9;
    }

    int idle(int k) {
        if (noRule(k)) {
            return -1;
        }
        if (off.contains(k)) {
            return -2;
        }
        TreeSet<Integer> out = new TreeSet<>(off);
        out.add(k);
        return all(out, assumed).equals(all(off, assumed)) ? 1 : 0;
    }

    int alike(int image) {
        if (image < 0 || image > 1) {
            return -1;
        }
        Image kept = images.get(image);
        if (kept == null) {
            return -2;
        }
        return all(kept.off, kept.assumed).equals(all(off, assumed)) ? 1 : 0;
    }

    // ---- kinds, images

    int mark(int kind, int k) {
        if (kind < 0 || kind > 5 || noRule(k)) {
            return -1000000;
        }
        Rule rule = rules.get(k);
        int body = rule.ifs.size() + rule.unless.size();
        trace += new int[] {1, 11, 101, 1011, 10101, 100001}[kind];
        return switch (kind) {
            case 0 -> body;
            case 1 -> 2 * body;
            case 2 -> rule.ifs.size();
            case 3 -> 2 * body + k;
            case 4 -> rule.ifs.size() + (off.contains(k) ? 0 : 1);
            default -> body + rule.head;
        };
    }

    int keep(int image) {
        if (image < 0 || image > 1) {
            return -1;
        }
        images.put(image, new Image(new TreeSet<>(off), new TreeSet<>(assumed)));
        return rules.size() - off.size();
    }

    int back(int image) {
        if (image < 0 || image > 1) {
            return -1;
        }
        Image kept = images.get(image);
        if (kept == null) {
            return -2;
        }
        off = new TreeSet<>(kept.off);
        assumed = new TreeSet<>(kept.assumed);
        return rules.size() - off.size();
    }

    int count(int what) {
        return switch (what) {
            case 0 -> rules.size();
            case 1 -> rules.size() - off.size();
            case 2 -> bits(may);
            case 3 -> bits(assumed);
            case 4 -> text.length();
            default -> -1;
        };
    }

    long trace() {
        return trace;
    }
}
