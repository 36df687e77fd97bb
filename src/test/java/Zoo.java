/** Objects that many tests begin with. */
final class Zoo {
    private static final int NONE = Check.NONE;

    private Zoo() {
    }

    /** A call that makes a node out of those of the zoo. */
    record Maker(String call, int kind, Making making) {
        int on(NameWriter x) {
            return making.make(x);
        }
    }

    interface Making {
        int make(NameWriter x);
    }

    /** One node of each kind, at its kind's number: i, a, a::b, a<i>, Pi, Ri, Ki, A7_i, Fii, Li5 and a(i). */
    static NameWriter make() {
        NameWriter x = new NameWriter();
        int i = x.builtin(4);
        int a = x.name(Check.id("a"));
        x.member(a, Check.id("b"));
        x.fill(a, i, NONE, NONE);
        x.wrap(4, i);
        x.wrap(5, i);
        x.wrap(6, i);
        x.array(i, 7);
        x.function(i, i, NONE, NONE);
        x.literal(i, 5);
        x.entity(a, NONE, i, NONE, NONE);
        return x;
    }

    /** The calls that made the zoo: each answers its kind's number once more. */
    static Maker[] oldOnes() {
        return new Maker[] {
            new Maker("builtin", 0, x -> x.builtin(4)),
            new Maker("name", 1, x -> x.name(Check.id("a"))),
            new Maker("member", 2, x -> x.member(1, Check.id("b"))),
            new Maker("fill", 3, x -> x.fill(1, 0, NONE, NONE)),
            new Maker("wrap 4", 4, x -> x.wrap(4, 0)),
            new Maker("wrap 5", 5, x -> x.wrap(5, 0)),
            new Maker("wrap 6", 6, x -> x.wrap(6, 0)),
            new Maker("array", 7, x -> x.array(0, 7)),
            new Maker("function", 8, x -> x.function(0, 0, NONE, NONE)),
            new Maker("literal", 9, x -> x.literal(0, 5)),
            new Maker("entity", 10, x -> x.entity(1, NONE, 0, NONE, NONE)),
        };
    }

    /** For each kind a call that makes a node that the zoo does not have. */
    static Maker[] newOnes() {
        return new Maker[] {
            new Maker("builtin", 0, x -> x.builtin(7)),
            new Maker("name", 1, x -> x.name(Check.id("q"))),
            new Maker("member", 2, x -> x.member(1, Check.id("q"))),
            new Maker("fill", 3, x -> x.fill(1, 4, NONE, NONE)),
            new Maker("wrap 4", 4, x -> x.wrap(4, 4)),
            new Maker("wrap 5", 5, x -> x.wrap(5, 4)),
            new Maker("wrap 6", 6, x -> x.wrap(6, 4)),
            new Maker("array", 7, x -> x.array(0, 8)),
            new Maker("function", 8, x -> x.function(0, 4, NONE, NONE)),
            new Maker("literal", 9, x -> x.literal(0, 6)),
            new Maker("entity", 10, x -> x.entity(1, NONE, 4, NONE, NONE)),
        };
    }
}
