import java.util.List;

/** Objects in the states in which calls are tried: new, full of rules, full of text, with a fault, without a set. */
final class States {
    record Named(String name, Twins.Maker maker) {
    }

    static final List<Named> ALL = List.of(
            new Named("a new object", HoldUnless::new),
            new Named("ten rules", States::tenRules),
            new Named("a full text", States::fullText),
            new Named("a text with a fault", States::faultyText),
            new Named("no set", States::noSet));

    private States() {
    }

    /** Ten rules, some off, some sentences assumed, one image kept, a text that would read well. */
    static HoldUnless tenRules() {
        HoldUnless x = Due.told("a if b unless c;never if d unless e;c if a;d if d;e unless f;may b d;"
                + "f unless e;g;h if g b;never unless g;b if h unless b;");
        x.turn(3, 0);
        x.assume(7, 1);
        x.keep(0);
        x.turn(9, 0);
        x.turn(0, 0);
        x.assume(7, 0);
        x.assume(3, 1);
        x.mark(3, 4);
        Due.typeAll(x, "h if a;may c;never if a b;");
        return x;
    }

    /** Three hundred bytes that would read well, both images kept. */
    static HoldUnless fullText() {
        HoldUnless x = Due.told("a;b unless a;");
        x.turn(1, 0);
        x.keep(1);
        x.assume(4, 1);
        x.keep(0);
        x.turn(0, 0);
        Due.typeAll(x, "may a b;".repeat(37) + "  c;");
        return x;
    }

    static HoldUnless faultyText() {
        HoldUnless x = Due.told("a if b unless c;never if d;may e;");
        x.turn(0, 0);
        x.assume(5, 1);
        x.keep(1);
        x.assume(6, 1);
        x.mark(5, 1);
        Due.typeAll(x, "may a;b if a;c if;");
        return x;
    }

    static HoldUnless noSet() {
        HoldUnless x = Due.told("a unless a;b if a;c;");
        x.keep(0);
        x.turn(2, 0);
        return x;
    }
}
