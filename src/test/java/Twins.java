import java.util.ArrayList;
import java.util.List;

/**
 * Shows that a call changes nothing: of two objects made alike one gets the call, and both answer alike
 * from then on, also of what can be seen only later: what the images have, what the text tells.
 */
final class Twins {
    interface Maker {
        HoldUnless make();
    }

    interface Call {
        long ask(HoldUnless x);
    }

    private Twins() {
    }

    static void unchanged(Due due, String what, Maker maker, Call call, long want) {
        HoldUnless asked = maker.make();
        HoldUnless left = maker.make();
        due.is(what, call.ask(asked), want);
        same(due, what, asked, left);
    }

    /** A call that only asks: it answers alike if it is asked again, and changes nothing. */
    static void onlyAsks(Due due, String what, Maker maker, Call call) {
        HoldUnless asked = maker.make();
        long first = call.ask(asked);
        due.is(what + ", asked again", call.ask(asked), first);
        same(due, what, asked, maker.make());
    }

    /** Two calls, by which one object each comes to answer all alike. */
    static void comesToTheSame(Due due, String what, Maker maker, Call call, Call other) {
        HoldUnless one = maker.make();
        HoldUnless another = maker.make();
        call.ask(one);
        other.ask(another);
        same(due, what, one, another);
    }

    /** Compares all that two objects answer; they are brought to their images and read anew in the end. */
    static void same(Due due, String what, HoldUnless one, HoldUnless other) {
        sameNow(due, what, one, other);
        for (int image = 0; image < 2; image++) {
            due.is("back(" + image + ") after " + what, one.back(image), other.back(image));
            sameNow(due, what + ", back(" + image + ")", one, other);
        }
        due.is("rules() after " + what, one.rules(), other.rules());
        sameNow(due, what + ", rules()", one, other);
    }

    private static void sameNow(Due due, String what, HoldUnless one, HoldUnless other) {
        List<Long> left = look(other);
        List<Long> asked = look(one);
        for (int i = 0; i < left.size(); i++) {
            due.is("look " + i + " after " + what, asked.get(i), left.get(i));
        }
    }

    /** What calls that only ask answer: some eighty calls, so that four looks stay far below 512. */
    private static List<Long> look(HoldUnless x) {
        List<Long> seen = new ArrayList<>();
        for (int what = 0; what <= 4; what++) {
            seen.add((long) x.count(what));
        }
        seen.add(x.trace());
        for (int k = 0; k < 10; k++) {
            for (int what = 0; what <= 3; what++) {
                seen.add((long) x.rule(k, what));
            }
            seen.add((long) x.idle(k));
        }
        for (int a = 0; a < 8; a++) {
            seen.add((long) x.known(a));
        }
        seen.add((long) x.explains(0, 254));
        seen.add((long) x.sets());
        for (int i = 0; i < 4; i++) {
            seen.add((long) x.set(i));
        }
        for (int bit = 0; bit <= 1; bit++) {
            seen.add((long) x.holds(bit));
            seen.add((long) x.hangs(bit));
            seen.add((long) x.alike(bit));
        }
        seen.add((long) x.givesUp());
        return seen;
    }
}
