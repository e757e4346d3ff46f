import java.nio.charset.StandardCharsets;

/** Compares answers with those that are due, and ends a test with exit code 1 if one is wrong. */
final class Due {
    private int wrong;
    private int asked;
    private String sentence = "";

    /** From here on the document's words are tested that are quoted here; they stand ahead of what is wrong. */
    void sentence(String quoted) {
        sentence = "[" + quoted + "] ";
    }

    void is(String call, long got, long want) {
        asked++;
        if (got != want) {
            wrong++;
            System.out.println(sentence + call + " answered " + got + ", due is " + want);
        }
    }

    void isTrue(String what, boolean so) {
        is(what, so ? 1 : 0, 1);
    }

    void end() {
        System.out.println(asked + " answers, " + wrong + " wrong");
        if (wrong != 0 || asked == 0) {
            System.exit(1);
        }
    }

    /** Types a text of bytes 0 to 255, eight at a time: the last answer. */
    static int typeAll(HoldUnless x, String text) {
        byte[] bytes = text.getBytes(StandardCharsets.ISO_8859_1);
        int answer = 0;
        for (int from = 0; from < bytes.length; from += 8) {
            int n = Math.min(8, bytes.length - from);
            long v = 0;
            for (int i = 0; i < n; i++) {
                v = v << 8 | bytes[from + i] & 255;
            }
            answer = x.type(v, n);
        }
        return answer;
    }

    /** What rules() answers to a text. */
    static int read(HoldUnless x, String text) {
        x.clear();
        typeAll(x, text);
        return x.rules();
    }

    /** A new object that was told a text without a fault. */
    static HoldUnless told(String text) {
        HoldUnless x = new HoldUnless();
        if (read(x, text) < 0) {
            throw new IllegalStateException("a fault in " + text);
        }
        return x;
    }

    /** The bits of sentences written as letters. */
    static int bits(String sentences) {
        int bits = 0;
        for (char c : sentences.toCharArray()) {
            bits |= 1 << c - 'a';
        }
        return bits;
    }
}
