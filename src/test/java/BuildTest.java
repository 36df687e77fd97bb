/** Promises 1 to 11: a new object, the calls that make nodes, and of. */
public final class BuildTest {
    private static final int NONE = Check.NONE;
    private static final Check check = new Check();

    public static void main(String[] args) {
        newObject();
        builtin();
        name();
        kinds();
        member();
        fill();
        wrap();
        array();
        function();
        literal();
        entity();
        of();
        depth();
        sixtyNodes();
        refusalsChangeNothing();
        check.end();
    }

    private static void newObject() {
        NameWriter x = new NameWriter();
        check.answers("nodes of a new object", 0, () -> x.look(0));
        check.answers("characters of a new object", 0, () -> x.look(1));
        check.answers("table of a new object", 0, () -> x.look(2));
        check.answers("of", NONE, () -> x.of(0, 0));
        check.answers("text", NONE, () -> x.text(0));
        check.answers("table", NONE, () -> x.table(0));
        check.refuses("read", Check.BAD, x::read);
        check.refuses("write", Check.BAD, () -> x.write(0));
        check.answers("NONE", -1, () -> NameWriter.NONE);
    }

    private static void builtin() {
        NameWriter x = new NameWriter();
        for (int k = 0; k < 8; k++) {
            int due = k;
            check.answers("builtin", due, () -> x.builtin(due));
            check.same("cells", Check.cellsOf(x, k), "0 " + k + " -1 -1 -1 -1 -1 1");
        }
        check.answers("builtin again", 3, () -> x.builtin(3));
        check.answers("nodes", 8, () -> x.look(0));
        for (int k : new int[] {-1, 8, Integer.MIN_VALUE, Integer.MAX_VALUE}) {
            check.refuses("builtin " + k, Check.BAD, () -> x.builtin(k));
        }
    }

    private static void name() {
        NameWriter x = new NameWriter();
        String[] right = {"a", "z", "aa", "zz", "aaa", "zzz", "abc"};
        for (int i = 0; i < right.length; i++) {
            int id = Check.id(right[i]);
            check.answers("name " + right[i], i, () -> x.name(id));
            check.same("cells", Check.cellsOf(x, i), "1 " + id + " -1 -1 -1 -1 -1 1");
        }
        check.answers("name again", 2, () -> x.name(Check.id("aa")));
        int[] wrong = {0, -1, 'a' - 1, 'z' + 1, 'A', 'a' << 8, 'a' << 16, 'a' << 16 | 'a', 'a' << 16 | 'a' << 8,
            0x61616161, 0x61000061, 0x01000061, 0x80616161, ('z' + 1) << 8 | 'a', ('a' - 1) << 16 | 'a' << 8 | 'a', 256,
            Integer.MIN_VALUE, Integer.MAX_VALUE};
        for (int id : wrong) {
            check.refuses("name " + id, Check.BAD, () -> x.name(id));
        }
        check.answers("nodes", right.length, () -> x.look(0));
    }

    private static void kinds() {
        NameWriter x = Zoo.make();
        check.answers("nodes", 11, () -> x.look(0));
        for (int kind = 0; kind < 11; kind++) {
            int node = kind;
            check.answers("kind", kind, () -> x.of(node, 0));
        }
    }

    /** For each node of the zoo, and numbers that no node has, whether the call takes it. */
    private interface Taking {
        int take(NameWriter x, int node);
    }

    private static void takes(String what, int lowest, int highest, Taking taking) {
        for (int node = -3; node < 14; node++) {
            NameWriter x = Zoo.make();
            int part = node;
            boolean right = node >= lowest && node <= highest;
            String got = Check.outcome(() -> taking.take(x, part));
            check.same(what + " of " + node, got.equals(Check.BAD), !right);
        }
        for (int node : new int[] {60, Integer.MIN_VALUE, Integer.MAX_VALUE}) {
            NameWriter x = Zoo.make();
            check.refuses(what, Check.BAD, () -> taking.take(x, node));
        }
    }

    private static void member() {
        NameWriter x = new NameWriter();
        int a = x.name(Check.id("a"));
        int id = Check.id("bcd");
        check.answers("member", 1, () -> x.member(a, id));
        check.same("cells", Check.cellsOf(x, 1), "2 " + id + " 0 -1 -1 -1 -1 2");
        check.answers("member of member", 2, () -> x.member(1, id));
        check.same("cells", Check.cellsOf(x, 2), "2 " + id + " 1 -1 -1 -1 -1 3");
        check.answers("member again", 1, () -> x.member(a, id));
        check.refuses("id", Check.BAD, () -> x.member(a, 0));
        check.refuses("id", Check.BAD, () -> x.member(a, 0x61616161));
        check.refuses("id", Check.BAD, () -> x.member(a, 'a' << 8));
        takes("member", 1, 3, (y, node) -> y.member(node, Check.id("q")));
    }

    private static void fill() {
        NameWriter x = Zoo.make();
        check.answers("fill", 11, () -> x.fill(1, 0, 9, 2));
        check.same("cells", Check.cellsOf(x, 11), "3 0 1 -1 0 9 2 3");
        check.answers("fill a member", 12, () -> x.fill(2, 9, NONE, NONE));
        check.same("cells", Check.cellsOf(x, 12), "3 0 2 -1 9 -1 -1 3");
        check.answers("two arguments", 13, () -> x.fill(1, 0, 0, NONE));
        check.answers("again", 3, () -> x.fill(1, 0, NONE, NONE));
        int v = x.builtin(0);
        check.answers("v is a type", 15, () -> x.fill(1, v, v, v));
        check.refuses("no argument", Check.BAD, () -> x.fill(1, NONE, NONE, NONE));
        check.refuses("gap", Check.BAD, () -> x.fill(1, 0, NONE, 0));
        check.refuses("gap", Check.BAD, () -> x.fill(1, NONE, 0, NONE));
        check.refuses("gap", Check.BAD, () -> x.fill(1, NONE, 0, 0));
        check.refuses("-2 is not NONE", Check.BAD, () -> x.fill(1, 0, -2, NONE));
        takes("fill", 1, 2, (y, node) -> y.fill(node, 0, 0, 0));
        takes("first argument", 0, 9, (y, node) -> y.fill(1, node, 0, 0));
        takes("second argument", 0, 9, (y, node) -> y.fill(1, 0, node, 0));
        takes("third argument", -1, 9, (y, node) -> y.fill(1, 0, 0, node));
    }

    private static void wrap() {
        NameWriter x = Zoo.make();
        check.same("pointer", Check.cellsOf(x, 4), "4 0 0 -1 -1 -1 -1 2");
        check.same("reference", Check.cellsOf(x, 5), "5 0 0 -1 -1 -1 -1 2");
        check.same("const", Check.cellsOf(x, 6), "6 0 0 -1 -1 -1 -1 2");
        check.answers("again", 5, () -> x.wrap(5, 0));
        check.answers("pointer to const", 11, () -> x.wrap(4, 6));
        check.answers("const pointer", 12, () -> x.wrap(6, 4));
        check.refuses("const of const", Check.BAD, () -> x.wrap(6, 6));
        int v = x.builtin(0);
        check.answers("const v", 14, () -> x.wrap(6, v));
        for (int kind : new int[] {-1, 0, 1, 2, 3, 7, 8, 9, 10, 11, Integer.MAX_VALUE, Integer.MIN_VALUE}) {
            check.refuses("kind " + kind, Check.BAD, () -> x.wrap(kind, 0));
        }
        takes("pointer", 0, 8, (y, node) -> y.wrap(4, node));
        takes("reference", 0, 8, (y, node) -> y.wrap(5, node));
        takes("const", 0, 8, (y, node) -> y.wrap(6, node == 6 ? 5 : node));
    }

    private static void array() {
        NameWriter x = Zoo.make();
        check.same("array", Check.cellsOf(x, 7), "7 7 0 -1 -1 -1 -1 2");
        check.answers("again", 7, () -> x.array(0, 7));
        check.answers("other number", 11, () -> x.array(0, 1));
        check.answers("greatest number", 12, () -> x.array(0, 999));
        for (int n : new int[] {0, -1, 1000, Integer.MAX_VALUE, Integer.MIN_VALUE}) {
            check.refuses("number " + n, Check.BAD, () -> x.array(0, n));
        }
        takes("array", 0, 8, (y, node) -> y.array(node, 3));
    }

    private static void function() {
        NameWriter x = Zoo.make();
        int v = x.builtin(0);
        check.answers("no parameters", 12, () -> x.function(v, NONE, NONE, NONE));
        check.same("cells", Check.cellsOf(x, 12), "8 0 11 -1 -1 -1 -1 2");
        check.answers("three parameters", 13, () -> x.function(12, 0, 12, 4));
        check.same("cells", Check.cellsOf(x, 13), "8 0 12 -1 0 12 4 3");
        check.answers("two parameters", 14, () -> x.function(0, 4, 4, NONE));
        check.answers("again", 8, () -> x.function(0, 0, NONE, NONE));
        check.refuses("v", Check.BAD, () -> x.function(0, v, NONE, NONE));
        check.refuses("v", Check.BAD, () -> x.function(0, 0, v, NONE));
        check.refuses("v", Check.BAD, () -> x.function(0, 0, 0, v));
        check.refuses("gap", Check.BAD, () -> x.function(0, NONE, 0, NONE));
        check.refuses("gap", Check.BAD, () -> x.function(0, NONE, NONE, 0));
        check.refuses("gap", Check.BAD, () -> x.function(0, 0, NONE, 0));
        check.refuses("gives nothing", Check.BAD, () -> x.function(NONE, 0, NONE, NONE));
        takes("gives", 0, 8, (y, node) -> y.function(node, 0, 0, 0));
        takes("first parameter", 0, 8, (y, node) -> y.function(0, node, 0, 0));
        takes("second parameter", 0, 8, (y, node) -> y.function(0, 0, node, 0));
        takes("third parameter", -1, 8, (y, node) -> y.function(0, 0, 0, node));
    }

    private static void literal() {
        NameWriter x = Zoo.make();
        check.same("literal", Check.cellsOf(x, 9), "9 5 0 -1 -1 -1 -1 2");
        check.answers("again", 9, () -> x.literal(0, 5));
        check.answers("other sign", 11, () -> x.literal(0, -5));
        check.answers("least", 12, () -> x.literal(0, -999999));
        check.answers("least number", -999999, () -> x.of(12, 1));
        check.answers("greatest", 13, () -> x.literal(0, 999999));
        check.answers("zero", 14, () -> x.literal(0, 0));
        for (int value : new int[] {1000000, -1000000, Integer.MAX_VALUE, Integer.MIN_VALUE}) {
            check.refuses("value " + value, Check.BAD, () -> x.literal(0, value));
        }
        int v = x.builtin(0);
        check.refuses("v", Check.BAD, () -> x.literal(v, 1));
        takes("literal", 0, 0, (y, node) -> y.literal(node, 3));
    }

    private static void entity() {
        NameWriter x = Zoo.make();
        int v = x.builtin(0);
        check.same("entity", Check.cellsOf(x, 10), "10 0 1 -1 0 -1 -1 2");
        check.answers("again", 10, () -> x.entity(1, NONE, 0, NONE, NONE));
        check.answers("of a member", 12, () -> x.entity(2, NONE, NONE, NONE, NONE));
        check.answers("of a filled one", 13, () -> x.entity(3, v, 0, 4, 8));
        check.same("cells", Check.cellsOf(x, 13), "10 0 3 11 0 4 8 3");
        check.refuses("filled, gives nothing", Check.BAD, () -> x.entity(3, NONE, 0, NONE, NONE));
        check.refuses("a name gives", Check.BAD, () -> x.entity(1, 0, 0, NONE, NONE));
        check.refuses("a member gives", Check.BAD, () -> x.entity(2, v, 0, NONE, NONE));
        check.refuses("v", Check.BAD, () -> x.entity(1, NONE, v, NONE, NONE));
        check.refuses("v", Check.BAD, () -> x.entity(1, NONE, 0, v, NONE));
        check.refuses("v", Check.BAD, () -> x.entity(1, NONE, 0, 0, v));
        check.refuses("gap", Check.BAD, () -> x.entity(1, NONE, NONE, 0, NONE));
        check.refuses("gap", Check.BAD, () -> x.entity(1, NONE, 0, NONE, 0));
        takes("scoped", 1, 3, (y, node) -> y.entity(node, node == 3 ? 0 : NONE, 0, 0, 0));
        takes("gives", 0, 8, (y, node) -> y.entity(3, node, 0, 0, 0));
        takes("first parameter", 0, 8, (y, node) -> y.entity(1, NONE, node, 0, 0));
        takes("second parameter", 0, 8, (y, node) -> y.entity(1, NONE, 0, node, 0));
        takes("third parameter", -1, 8, (y, node) -> y.entity(1, NONE, 0, 0, node));
    }

    private static void of() {
        NameWriter x = Zoo.make();
        for (int w : new int[] {-1, 8, 9, Integer.MAX_VALUE, Integer.MIN_VALUE}) {
            check.answers("no such w " + w, NONE, () -> x.of(0, w));
            check.answers("no such w " + w, NONE, () -> x.of(10, w));
        }
        for (int node : new int[] {-1, 11, 60, 1 << 29, Integer.MAX_VALUE, Integer.MIN_VALUE}) {
            for (int w = 0; w < 8; w++) {
                int cell = w;
                check.answers("no such node " + node, NONE, () -> x.of(node, cell));
            }
        }
    }

    /** Nodes of depth 15 and 16 of each kind, and none of 17. */
    private static void depth() {
        NameWriter x = new NameWriter();
        int i = x.builtin(4);
        int a = x.name(Check.id("a"));
        int deep = i;
        int scope = a;
        for (int level = 2; level <= 16; level++) {
            deep = x.wrap(4, deep);
            scope = x.member(scope, Check.id("m"));
        }
        int last = deep;
        int scoped = scope;
        check.answers("depth", 16, () -> x.of(last, 7));
        check.answers("depth", 16, () -> x.of(scoped, 7));
        int before = x.look(0);
        for (int kind = 4; kind <= 6; kind++) {
            int wrapping = kind;
            check.refuses("wrap", Check.BAD, () -> x.wrap(wrapping, last));
        }
        check.refuses("member", Check.BAD, () -> x.member(scoped, a));
        check.refuses("member", Check.BAD, () -> x.member(scoped, Check.id("m")));
        check.refuses("fill", Check.BAD, () -> x.fill(scoped, i, NONE, NONE));
        check.refuses("fill", Check.BAD, () -> x.fill(a, last, NONE, NONE));
        check.refuses("fill", Check.BAD, () -> x.fill(a, i, last, NONE));
        check.refuses("fill", Check.BAD, () -> x.fill(a, i, i, last));
        check.refuses("array", Check.BAD, () -> x.array(last, 1));
        check.refuses("function", Check.BAD, () -> x.function(last, NONE, NONE, NONE));
        check.refuses("function", Check.BAD, () -> x.function(i, last, NONE, NONE));
        check.refuses("function", Check.BAD, () -> x.function(i, i, last, NONE));
        check.refuses("function", Check.BAD, () -> x.function(i, i, i, last));
        check.refuses("entity", Check.BAD, () -> x.entity(scoped, NONE, i, NONE, NONE));
        check.refuses("entity", Check.BAD, () -> x.entity(a, NONE, last, NONE, NONE));
        check.refuses("entity", Check.BAD, () -> x.entity(a, NONE, i, last, NONE));
        check.refuses("entity", Check.BAD, () -> x.entity(a, NONE, i, i, last));
        int filled = x.fill(a, i, NONE, NONE);
        check.refuses("entity", Check.BAD, () -> x.entity(filled, last, NONE, NONE, NONE));
        check.answers("nothing else made", before + 1, () -> x.look(0));
        int one = x.of(last, 2);
        check.answers("an entity of depth 16", 16, () -> x.of(x.entity(a, NONE, i, i, one), 7));
        check.answers("a filled one of depth 16", 16, () -> x.of(x.fill(a, one, NONE, NONE), 7));
        check.answers("a function of depth 16", 16, () -> x.of(x.function(one, NONE, NONE, NONE), 7));
    }

    private static void sixtyNodes() {
        NameWriter x = Zoo.make();
        Check.crowd(x, 59);
        check.answers("the sixtieth", 59, () -> x.builtin(1));
        check.answers("nodes", 60, () -> x.look(0));
        check.refuses("builtin", Check.FULL, () -> x.builtin(0));
        check.refuses("name", Check.FULL, () -> x.name(Check.id("b")));
        check.refuses("member", Check.FULL, () -> x.member(1, Check.id("c")));
        check.refuses("fill", Check.FULL, () -> x.fill(1, 4, NONE, NONE));
        check.refuses("wrap", Check.FULL, () -> x.wrap(4, 4));
        check.refuses("array", Check.FULL, () -> x.array(0, 8));
        check.refuses("function", Check.FULL, () -> x.function(0, 4, NONE, NONE));
        check.refuses("literal", Check.FULL, () -> x.literal(0, 6));
        check.refuses("entity", Check.FULL, () -> x.entity(1, NONE, 4, NONE, NONE));
        check.refuses("wrong and full", Check.BAD, () -> x.builtin(8));
        check.refuses("wrong and full", Check.BAD, () -> x.wrap(4, 60));
        check.answers("there: builtin", 0, () -> x.builtin(4));
        check.answers("there: name", 1, () -> x.name(Check.id("a")));
        check.answers("there: member", 2, () -> x.member(1, Check.id("b")));
        check.answers("there: fill", 3, () -> x.fill(1, 0, NONE, NONE));
        check.answers("there: wrap", 6, () -> x.wrap(6, 0));
        check.answers("there: array", 7, () -> x.array(0, 7));
        check.answers("there: function", 8, () -> x.function(0, 0, NONE, NONE));
        check.answers("there: literal", 9, () -> x.literal(0, 5));
        check.answers("there: entity", 10, () -> x.entity(1, NONE, 0, NONE, NONE));
        check.answers("nodes", 60, () -> x.look(0));
        check.answers("no sixty-first", NONE, () -> x.of(60, 0));
    }

    private static void refusalsChangeNothing() {
        NameWriter x = Zoo.make();
        check.refuses("wrap", Check.BAD, () -> x.wrap(6, 6));
        check.refuses("member", Check.BAD, () -> x.member(1, 0));
        check.answers("nodes", 11, () -> x.look(0));
        check.answers("of", NONE, () -> x.of(11, 0));
        check.answers("the next number", 11, () -> x.wrap(4, 6));
    }
}
