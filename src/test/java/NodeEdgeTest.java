import java.util.HashSet;
import java.util.Set;
import java.util.function.IntPredicate;

/**
 * Promises 1 to 11 and the terms of nodes: each sentence that names a boundary has a test of its own, with calls at the
 * boundary and on both sides of it.
 */
public final class NodeEdgeTest {
    private static final int NONE = Check.NONE;
    private static final int LEAST = Integer.MIN_VALUE;
    private static final int MOST = Integer.MAX_VALUE;
    private static final String BAD = Check.BAD;
    private static final String FULL = Check.FULL;
    private static final Check check = new Check();

    public static void main(String[] args) {
        terms();
        newObject();
        builtin();
        name();
        member();
        fill();
        wrap();
        array();
        function();
        literal();
        entity();
        of();
        check.end();
    }

    /** A call of which one argument is tried out. */
    private interface Taking {
        int take(NameWriter x, int argument);
    }

    private static void takesKinds(String what, int lowest, int highest, Taking taking) {
        takesKinds(what, kind -> kind >= lowest && kind <= highest, taking);
    }

    /** Takes the zoo's nodes of these kinds, and neither another node nor a number that no node has. */
    private static void takesKinds(String what, IntPredicate right, Taking taking) {
        for (int node = 0; node <= 10; node++) {
            int kind = node;
            NameWriter x = Zoo.make();
            if (right.test(kind)) {
                check.same(what + " takes kind " + kind, Check.outcome(() -> taking.take(x, kind)).matches("\\d+"), true);
            } else {
                check.refusesUnchanged(what + " of kind " + kind, BAD, x, () -> taking.take(x, kind));
            }
        }
        for (int number : new int[] {-2, 11, 12, 59, 60, 61, 1 << 29, LEAST, MOST}) {
            NameWriter x = Zoo.make();
            check.refusesUnchanged(what + " of no node " + number, BAD, x, () -> taking.take(x, number));
        }
    }

    private static void needsOne(String what, Taking taking) {
        NameWriter x = Zoo.make();
        check.refusesUnchanged(what + " is NONE", BAD, x, () -> taking.take(x, NONE));
    }

    private static void takesValues(String what, int[] right, int[] wrong, Taking taking) {
        for (int value : right) {
            NameWriter x = Zoo.make();
            check.same(what + " takes " + value, Check.outcome(() -> taking.take(x, value)).matches("\\d+"), true);
            check.answers(what + " is told as " + value, value, () -> x.of(taking.take(x, value), 1));
        }
        for (int value : wrong) {
            NameWriter x = Zoo.make();
            check.refusesUnchanged(what + " of " + value, BAD, x, () -> taking.take(x, value));
        }
    }

    /** A POINTER and a MEMBER of each depth from 2 to 16 behind i and a, then a<i>. */
    private static NameWriter deep() {
        NameWriter x = new NameWriter();
        x.builtin(4);
        x.name('a');
        for (int depth = 2; depth <= 16; depth++) {
            x.wrap(4, typeOfDepth(depth - 1));
            x.member(scopeOfDepth(depth - 1), 'm');
        }
        x.fill(1, 0, NONE, NONE);
        return x;
    }

    private static final int DEEP_FILLED = 32;

    private static int typeOfDepth(int depth) {
        return 2 * depth - 2;
    }

    private static int scopeOfDepth(int depth) {
        return 2 * depth - 1;
    }

    /** With a part of depth 15 there is a node of depth 16; with one of depth 16 there is none. */
    private static void endsAtDepth16(String what, int part15, int part16, Taking taking) {
        NameWriter x = deep();
        check.answers(what + " at depth 15", 16, () -> x.of(taking.take(x, part15), 7));
        check.refusesUnchanged(what + " at depth 16", BAD, x, () -> taking.take(x, part16));
    }

    private static void typeEndsAtDepth16(String what, Taking taking) {
        endsAtDepth16(what, typeOfDepth(15), typeOfDepth(16), taking);
    }

    private static void scopeEndsAtDepth16(String what, Taking taking) {
        endsAtDepth16(what, scopeOfDepth(15), scopeOfDepth(16), taking);
    }

    private static void terms() {
        check.sentence("An object is used for at most 512 calls after it has been made", NodeEdgeTest::the512thCall);
        check.sentence("NODES are made of others that are there", NodeEdgeTest::madeOfOthers);
        check.sentence("and have numbers 0, 1, ..", NodeEdgeTest::numbers);
        check.sentence("no two are the same", NodeEdgeTest::noTwoAreTheSame);
        check.sentence("at most 60.", NodeEdgeTest::atMost60);
        check.sentence("The DEPTH of a node is 1 more than the greatest of its parts, 1 if it has none",
            NodeEdgeTest::greatestDepth);
        check.sentence("it is at most 16.", NodeEdgeTest::atMost16);
        check.sentence("SCOPED, and PREFIXES, are NAME, MEMBER and FILLED.", () -> {
            takesKinds("SCOPED", 1, 3, (x, scoped) -> x.entity(scoped, scoped == 3 ? 0 : NONE, 4, 4, 4));
            takesKinds("PREFIX", 1, 3, (x, prefix) -> x.member(prefix, Check.id("zzz")));
        });
        check.sentence("TYPES are these, and BUILTIN, POINTER, REFERENCE, CONST, ARRAY and FUNCTION.", () -> {
            takesKinds("POINTER", 0, 8, (x, type) -> x.wrap(4, type));
            takesKinds("FUNCTION", 0, 8, (x, type) -> x.function(type, type, type, type));
        });
        check.sentence("What throws, or answers false, changes nothing.", NodeEdgeTest::numbersBehindRefusals);
    }

    private static void the512thCall() {
        NameWriter x = Zoo.make();
        for (int calls = 11; calls < 511; calls += 4) {
            x.write(10);
            x.wipe();
            x.type(Check.part("_Z1aPi"));
            x.read();
        }
        check.answers("write", 5, () -> x.write(10));
    }

    private static void madeOfOthers() {
        NameWriter x = new NameWriter();
        x.name('a');
        check.refusesUnchanged("wrap of itself", BAD, x, () -> x.wrap(4, 1));
        check.answers("wrap of the last", 1, () -> x.wrap(4, 0));
        check.refusesUnchanged("fill with itself", BAD, x, () -> x.fill(0, 2, NONE, NONE));
        check.answers("fill with the last", 2, () -> x.fill(0, 1, NONE, NONE));
        check.refusesUnchanged("member of itself", BAD, x, () -> x.member(3, 'b'));
        check.answers("member of the last", 3, () -> x.member(2, 'b'));
        check.refusesUnchanged("function that takes itself", BAD, x, () -> x.function(3, 3, 3, 4));
        check.answers("function that takes the last", 4, () -> x.function(3, 3, 3, 3));
        check.refusesUnchanged("array of itself", BAD, x, () -> x.array(5, 1));
        check.answers("array of the last", 5, () -> x.array(4, 1));
        check.refusesUnchanged("entity that takes itself", BAD, x, () -> x.entity(3, NONE, 5, 5, 6));
        check.answers("entity that takes the last", 6, () -> x.entity(3, NONE, 5, 5, 5));
    }

    private static void numbers() {
        NameWriter x = Zoo.make();
        int due = 11;
        for (Zoo.Maker maker : Zoo.newOnes()) {
            check.answers(maker.call(), due, () -> maker.on(x));
            due++;
            check.answers("nodes", due, () -> x.look(0));
        }
        check.answers("read", due + 1, () -> Check.read(x, "_Z1zi"));
        check.answers("name", due + 2, () -> x.name('y'));
    }

    private static void noTwoAreTheSame() {
        for (Zoo.Maker maker : Zoo.newOnes()) {
            NameWriter x = Zoo.make();
            check.answers(maker.call(), 11, () -> maker.on(x));
            check.answers(maker.call() + " again", 11, () -> maker.on(x));
            check.answers("nodes", 12, () -> x.look(0));
        }
        NameWriter x = Zoo.make();
        int j = x.builtin(5);
        int[] different = {
            x.builtin(0), x.name('b'), x.name(Check.id("ab")), x.name(Check.id("ba")), x.member(1, 'a'), x.member(2, 'b'),
            x.member(3, 'b'), x.fill(1, 0, 0, NONE), x.fill(1, 0, 0, 0), x.fill(1, 0, j, NONE), x.fill(1, j, 0, NONE),
            x.fill(1, 0, 0, j), x.fill(1, 0, j, 0), x.fill(1, j, 0, 0), x.fill(2, 0, NONE, NONE), x.wrap(4, j),
            x.wrap(5, j), x.wrap(6, j), x.wrap(4, 1), x.array(0, 5), x.array(j, 5), x.function(0, NONE, NONE, NONE),
            x.function(1, 0, NONE, NONE), x.function(0, 0, 0, NONE), x.function(0, 0, 0, 0), x.function(0, 0, j, NONE),
            x.function(0, j, 0, NONE), x.literal(0, -5), x.literal(j, 5), x.literal(0, 0),
            x.entity(1, NONE, NONE, NONE, NONE), x.entity(2, NONE, 0, NONE, NONE), x.entity(3, 0, 0, NONE, NONE),
            x.entity(3, j, 0, NONE, NONE), x.entity(1, NONE, 0, 0, NONE), x.entity(1, NONE, 0, 0, 0),
            x.entity(1, NONE, 0, j, 0), x.entity(1, NONE, 0, 0, j),
        };
        Set<Integer> numbers = new HashSet<>();
        for (int node : different) {
            check.same("node " + node + " is new", node > j && numbers.add(node), true);
        }
        check.answers("nodes", 12 + different.length, () -> x.look(0));
    }

    private static void atMost60() {
        NameWriter x = Zoo.make();
        Check.crowd(x, 59);
        check.answers("the sixtieth", 59, () -> x.name('q'));
        check.answers("nodes", 60, () -> x.look(0));
        check.refuses("the sixty-first", FULL, () -> x.name('r'));
        check.answers("nodes", 60, () -> x.look(0));
        check.answers("kind of the sixtieth", 1, () -> x.of(59, 0));
        check.answers("kind of the sixty-first", NONE, () -> x.of(60, 0));
    }

    private static void greatestDepth() {
        NameWriter x = deep();
        check.answers("a BUILTIN", 1, () -> x.of(0, 7));
        check.answers("a NAME", 1, () -> x.of(1, 7));
        for (int depth = 2; depth <= 16; depth++) {
            int due = depth;
            check.answers("a POINTER", due, () -> x.of(typeOfDepth(due), 7));
            check.answers("a MEMBER", due, () -> x.of(scopeOfDepth(due), 7));
        }
        int t2 = typeOfDepth(2);
        int t3 = typeOfDepth(3);
        int t5 = typeOfDepth(5);
        check.answers("a LITERAL", 2, () -> x.of(x.literal(0, 1), 7));
        check.answers("an ARRAY", 6, () -> x.of(x.array(t5, 1), 7));
        check.answers("FILLED, what is filled", 5, () -> x.of(x.fill(scopeOfDepth(4), t2, t3, t2), 7));
        check.answers("FILLED, first", 6, () -> x.of(x.fill(scopeOfDepth(4), t5, t3, t2), 7));
        check.answers("FILLED, second", 6, () -> x.of(x.fill(1, t3, t5, t2), 7));
        check.answers("FILLED, third", 6, () -> x.of(x.fill(1, t3, t2, t5), 7));
        check.answers("FILLED with a LITERAL", 3, () -> x.of(x.fill(1, x.literal(0, 1), NONE, NONE), 7));
        check.answers("FUNCTION, none", 2, () -> x.of(x.function(0, NONE, NONE, NONE), 7));
        check.answers("FUNCTION, gives", 6, () -> x.of(x.function(t5, t3, t2, 0), 7));
        check.answers("FUNCTION, first", 6, () -> x.of(x.function(t3, t5, t2, 0), 7));
        check.answers("FUNCTION, second", 6, () -> x.of(x.function(t3, t2, t5, 0), 7));
        check.answers("FUNCTION, third", 6, () -> x.of(x.function(t3, t2, 0, t5), 7));
        check.answers("ENTITY, none", 2, () -> x.of(x.entity(1, NONE, NONE, NONE, NONE), 7));
        check.answers("ENTITY, SCOPED", 7, () -> x.of(x.entity(scopeOfDepth(6), NONE, t5, t3, t2), 7));
        check.answers("ENTITY, gives", 6, () -> x.of(x.entity(DEEP_FILLED, t5, t3, t2, 0), 7));
        check.answers("ENTITY, first", 6, () -> x.of(x.entity(1, NONE, t5, t3, 0), 7));
        check.answers("ENTITY, second", 6, () -> x.of(x.entity(1, NONE, t3, t5, 0), 7));
        check.answers("ENTITY, third", 6, () -> x.of(x.entity(1, NONE, t3, t3, t5), 7));
    }

    /** Each kind that can nest in itself does so until it is refused. */
    private static void atMost16() {
        endsAt16("POINTER", 4, (x, part) -> x.wrap(4, part));
        endsAt16("REFERENCE", 5, (x, part) -> x.wrap(5, part));
        endsAt16("ARRAY", 7, (x, part) -> x.array(part, 9));
        endsAt16("FUNCTION that gives", 8, (x, part) -> x.function(part, NONE, NONE, NONE));
        endsAt16("FUNCTION that takes", 8, (x, part) -> x.function(0, 0, 0, part));
        endsAt16("FILLED", 3, (x, part) -> x.fill(1, 0, part, NONE));
        endsAt16("MEMBER", 2, (x, part) -> x.member(part, 'm'));
    }

    private static void endsAt16(String what, int start, Taking taking) {
        NameWriter x = Zoo.make();
        int deepest = start;
        for (int depth = 3; depth <= 16; depth++) {
            int part = deepest;
            check.answers(what, 8 + depth, () -> taking.take(x, part));
            deepest = 8 + depth;
        }
        int last = deepest;
        check.answers("depth of " + what, 16, () -> x.of(last, 7));
        check.refusesUnchanged("one more " + what, BAD, x, () -> taking.take(x, last));
    }

    private static void numbersBehindRefusals() {
        NameWriter x = Zoo.make();
        int due = 11;
        for (Zoo.Maker maker : Zoo.newOnes()) {
            check.refuses("builtin", BAD, () -> x.builtin(8));
            check.refuses("name", BAD, () -> x.name(0));
            check.refuses("member", BAD, () -> x.member(1, 0));
            check.refuses("fill", BAD, () -> x.fill(1, NONE, NONE, NONE));
            check.refuses("wrap", BAD, () -> x.wrap(6, 6));
            check.refuses("array", BAD, () -> x.array(0, 0));
            check.refuses("function", BAD, () -> x.function(0, NONE, 0, NONE));
            check.refuses("literal", BAD, () -> x.literal(0, 1000000));
            check.refuses("entity", BAD, () -> x.entity(3, NONE, NONE, NONE, NONE));
            check.answers(maker.call(), due, () -> maker.on(x));
            due++;
        }
        check.answers("nodes", 22, () -> x.look(0));
    }

    private static void newObject() {
        check.sentence("No nodes, no text.", () -> {
            NameWriter used = Zoo.make();
            used.write(10);
            NameWriter x = new NameWriter();
            check.same("state", Check.stateOf(x), "0 0 0 / -1 -1 -1 -1 -1 -1 -1 -1 /  / ");
            check.refuses("read", BAD, x::read);
            check.refuses("write", BAD, () -> x.write(0));
            check.refuses("wrap", BAD, () -> x.wrap(4, 0));
            check.answers("the first node", 0, () -> x.name('z'));
            check.answers("nodes of the other object", 11, () -> used.look(0));
            check.same("text of the other object", Check.textOf(used), "_Z1ai");
        });
        check.sentence("NONE = -1: There is none.", () -> check.answers("NONE", -1, () -> NameWriter.NONE));
    }

    private static void builtin() {
        check.sentence("A BUILTIN, k being 0 .. 7", () -> {
            NameWriter x = new NameWriter();
            for (int k = 7; k >= 0; k--) {
                int asked = k;
                check.answers("builtin " + k, 7 - k, () -> x.builtin(asked));
                check.same("cells", Check.cellsOf(x, 7 - k), "0 " + k + " -1 -1 -1 -1 -1 1");
            }
        });
        check.sentence("its number, as all of these also if it is there", NodeEdgeTest::alsoIfThere);
        check.sentence("IllegalArgumentException if k is another", () -> takesValues("builtin", new int[] {0, 7},
            new int[] {-1, 8, -8, 256, 'v', 1 << 31 | 1, LEAST, MOST}, (x, k) -> x.builtin(k)));
        check.sentence("IllegalStateException if there are 60 others (as for all that follow).", NodeEdgeTest::sixtyOthers);
        check.sentence("if there are 60 others", NodeEdgeTest::fiftyNineOthers);
    }

    private static void alsoIfThere() {
        NameWriter x = Zoo.make();
        for (Zoo.Maker maker : Zoo.oldOnes()) {
            check.answers(maker.call(), maker.kind(), () -> maker.on(x));
            check.answers("nodes", 11, () -> x.look(0));
        }
        NameWriter y = new NameWriter();
        Check.read(y, "_ZN1a1bILi5EEEiPi");
        check.answers("a BUILTIN that was read", 2, () -> y.builtin(4));
        check.answers("a NAME that was read", 0, () -> y.name('a'));
        check.answers("a MEMBER that was read", 1, () -> y.member(0, 'b'));
        check.answers("a LITERAL that was read", 3, () -> y.literal(2, 5));
        check.answers("a FILLED that was read", 4, () -> y.fill(1, 3, NONE, NONE));
        check.answers("a POINTER that was read", 5, () -> y.wrap(4, 2));
        check.answers("an ENTITY that was read", 6, () -> y.entity(4, 2, 5, NONE, NONE));
        check.answers("nodes", 7, () -> y.look(0));
    }

    private static void sixtyOthers() {
        for (Zoo.Maker maker : Zoo.newOnes()) {
            NameWriter x = Zoo.make();
            Check.crowd(x, 60);
            check.refusesUnchanged(maker.call(), FULL, x, () -> maker.on(x));
        }
        NameWriter x = Zoo.make();
        Check.crowd(x, 60);
        for (Zoo.Maker maker : Zoo.oldOnes()) {
            check.answers(maker.call() + " is there", maker.kind(), () -> maker.on(x));
        }
        check.refuses("wrong: builtin", BAD, () -> x.builtin(8));
        check.refuses("wrong: name", BAD, () -> x.name(0));
        check.refuses("wrong: member", BAD, () -> x.member(60, 'q'));
        check.refuses("wrong: fill", BAD, () -> x.fill(1, 60, NONE, NONE));
        check.refuses("wrong: wrap", BAD, () -> x.wrap(4, 60));
        check.refuses("wrong: array", BAD, () -> x.array(0, 1000));
        check.refuses("wrong: function", BAD, () -> x.function(0, NONE, 0, NONE));
        check.refuses("wrong: literal", BAD, () -> x.literal(0, 1000000));
        check.refuses("wrong: entity", BAD, () -> x.entity(1, 0, NONE, NONE, NONE));
        check.answers("nodes", 60, () -> x.look(0));
    }

    private static void fiftyNineOthers() {
        for (Zoo.Maker maker : Zoo.newOnes()) {
            NameWriter x = Zoo.make();
            Check.crowd(x, 59);
            check.answers(maker.call(), 59, () -> maker.on(x));
            check.answers(maker.call() + " again", 59, () -> maker.on(x));
            check.answers("nodes", 60, () -> x.look(0));
            check.answers("kind", maker.kind(), () -> x.of(59, 0));
        }
    }

    private static void name() {
        check.sentence("id has one to three letters", () -> takesValues("name",
            new int[] {'a', 'z', Check.id("aa"), Check.id("zz"), Check.id("aaa"), Check.id("zzz")},
            new int[] {0, Check.id("aaaa"), Check.id("zzzz")}, (x, id) -> x.name(id)));
        check.sentence("the last one in its lowest byte", NodeEdgeTest::lastLetterIsLowest);
        check.sentence("no others", () -> takesValues("name", new int[] {Check.id("abc")},
            new int[] {'a' << 24, 'a' << 24 | 'b', 'a' << 24 | Check.id("abc"), 1 << 24 | Check.id("abc"), 1 << 31 | 'a',
                -1 << 24 | Check.id("abc"), 'a' << 8, 'a' << 16, 'a' << 16 | 'b', 'a' << 16 | 'b' << 8, -1, LEAST, MOST},
            (x, id) -> x.name(id)));
        check.sentence("IllegalArgumentException if it is not so.", () -> everyByte((x, id) -> x.name(id)));
    }

    private static void lastLetterIsLowest() {
        NameWriter x = new NameWriter();
        x.name('a' << 16 | 'b' << 8 | 'c');
        x.name('d' << 8 | 'e');
        x.entity(0, NONE, 1, NONE, NONE);
        check.same("written", Check.written(x, 2), "_Z3abc2de");
    }

    /** Each of the 256 bytes at each place of an ID with one to three letters. */
    private static void everyByte(Taking taking) {
        for (int length = 1; length <= 3; length++) {
            for (int place = 0; place < length; place++) {
                for (int letter = 0; letter < 256; letter++) {
                    int id = Check.id("mmm".substring(0, length)) & ~(255 << 8 * place) | letter << 8 * place;
                    boolean shorter = letter == 0 && length > 1 && place == length - 1;
                    boolean right = letter >= 'a' && letter <= 'z' || shorter;
                    NameWriter x = new NameWriter();
                    x.name(Check.id("xyz"));
                    String due = right ? "1" : BAD;
                    check.same("id " + Integer.toHexString(id), Check.outcome(() -> taking.take(x, id)), due);
                    check.answers("nodes", right ? 2 : 1, () -> x.look(0));
                }
            }
        }
    }

    private static void member() {
        check.sentence("IllegalArgumentException if there is no such prefix", () -> {
            takesKinds("prefix", 1, 3, (x, prefix) -> x.member(prefix, 'q'));
            needsOne("prefix", (x, prefix) -> x.member(prefix, 'q'));
        });
        check.sentence("id is none", () -> {
            takesValues("id", new int[] {'a', 'z', Check.id("zz"), Check.id("zzz")},
                new int[] {0, -1, '`', '{', 'A', 'a' << 8, 'a' << 24, Check.id("aaaa"), LEAST, MOST},
                (x, id) -> x.member(1, id));
            everyByte((x, id) -> x.member(0, id));
        });
        check.sentence("or it is too deep (member)", () -> {
            scopeEndsAtDepth16("prefix", (x, prefix) -> x.member(prefix, 'q'));
            NameWriter x = deep();
            int filled = x.fill(1, typeOfDepth(15), NONE, NONE);
            check.refusesUnchanged("a FILLED prefix", BAD, x, () -> x.member(filled, 'q'));
        });
    }

    private static void fill() {
        check.sentence("b and c, or c, are NONE if there are fewer arguments.", () -> {
            NameWriter x = Zoo.make();
            check.same("one", Check.cellsOf(x, x.fill(2, 9, NONE, NONE)), "3 0 2 -1 9 -1 -1 3");
            check.same("two", Check.cellsOf(x, x.fill(2, 9, 8, NONE)), "3 0 2 -1 9 8 -1 3");
            check.same("three", Check.cellsOf(x, x.fill(2, 9, 8, 7)), "3 0 2 -1 9 8 7 3");
        });
        check.sentence("3 FILLED: a NAME or MEMBER, and one to three ARGUMENTS, each a type or a LITERAL.", () -> {
            takesKinds("what is filled", 1, 2, (x, filled) -> x.fill(filled, 9, NONE, NONE));
            needsOne("what is filled", (x, filled) -> x.fill(filled, 9, NONE, NONE));
            NameWriter x = Zoo.make();
            x.builtin(0);
            check.answers("v is a type", 12, () -> x.fill(1, 11, 11, 11));
        });
        check.sentence("IllegalArgumentException if there are no such nodes (fill)", () -> {
            takesKinds("the only one", 0, 9, (x, a) -> x.fill(1, a, NONE, NONE));
            takesKinds("first of two", 0, 9, (x, a) -> x.fill(1, a, 0, NONE));
            takesKinds("first of three", 0, 9, (x, a) -> x.fill(1, a, 0, 0));
            takesKinds("second of two", 0, 9, (x, b) -> x.fill(1, 0, b, NONE));
            takesKinds("second of three", 0, 9, (x, b) -> x.fill(1, 0, b, 0));
            takesKinds("third", 0, 9, (x, c) -> x.fill(1, 0, 0, c));
            needsOne("the only one", (x, a) -> x.fill(1, a, NONE, NONE));
            needsOne("first of two", (x, a) -> x.fill(1, a, 0, NONE));
            needsOne("first of three", (x, a) -> x.fill(1, a, 0, 0));
        });
        check.sentence("b is NONE and c not", () -> {
            needsOne("b", (x, b) -> x.fill(1, 0, b, 0));
            needsOne("b", (x, b) -> x.fill(2, 9, b, 9));
        });
        check.sentence("or it is too deep (fill)", () -> {
            scopeEndsAtDepth16("what is filled", (x, filled) -> x.fill(filled, 0, NONE, NONE));
            typeEndsAtDepth16("first", (x, a) -> x.fill(1, a, NONE, NONE));
            typeEndsAtDepth16("second", (x, b) -> x.fill(1, 0, b, NONE));
            typeEndsAtDepth16("third", (x, c) -> x.fill(1, 0, 0, c));
        });
    }

    private static void wrap() {
        check.sentence("A POINTER (kind 4), REFERENCE (5) or CONST (6) of a type.", () -> {
            for (int kind = 4; kind <= 6; kind++) {
                NameWriter x = Zoo.make();
                check.same("cells", Check.cellsOf(x, x.wrap(kind, 1)), kind + " 0 1 -1 -1 -1 -1 2");
            }
        });
        check.sentence("IllegalArgumentException if there is no such kind", () -> {
            for (int kind : new int[] {NONE, 0, 1, 2, 3, 7, 8, 9, 10, 11, 256 + 4, 1 << 31 | 4, LEAST, MOST}) {
                NameWriter x = Zoo.make();
                check.refusesUnchanged("kind " + kind, BAD, x, () -> x.wrap(kind, 0));
            }
        });
        check.sentence("IllegalArgumentException if there is no such .. type (wrap)", () -> {
            takesKinds("POINTER", 0, 8, (x, type) -> x.wrap(4, type));
            takesKinds("REFERENCE", 0, 8, (x, type) -> x.wrap(5, type));
            for (int kind = 4; kind <= 6; kind++) {
                int wrapping = kind;
                needsOne("type", (x, type) -> x.wrap(wrapping, type));
            }
        });
        check.sentence("it is CONST of CONST", () -> {
            takesKinds("CONST", kind -> kind <= 8 && kind != 6, (x, type) -> x.wrap(6, type));
            NameWriter x = Zoo.make();
            check.answers("POINTER to CONST", 11, () -> x.wrap(4, 6));
            check.answers("CONST POINTER to CONST", 12, () -> x.wrap(6, 11));
            check.answers("REFERENCE to CONST", 13, () -> x.wrap(5, 12));
            check.refusesUnchanged("CONST of CONST", BAD, x, () -> x.wrap(6, 12));
        });
        check.sentence("or too deep (wrap)", () -> {
            for (int kind = 4; kind <= 6; kind++) {
                int wrapping = kind;
                typeEndsAtDepth16("kind " + kind, (x, type) -> x.wrap(wrapping, type));
                scopeEndsAtDepth16("kind " + kind, (x, type) -> x.wrap(wrapping, type));
            }
        });
    }

    private static void array() {
        check.sentence("IllegalArgumentException if there is no such type (array)", () -> {
            takesKinds("type", 0, 8, (x, type) -> x.array(type, 1));
            needsOne("type", (x, type) -> x.array(type, 1));
        });
        check.sentence("n is not 1 .. 999", () -> takesValues("n", new int[] {1, 2, 998, 999},
            new int[] {0, -1, -999, 1000, 1001, 1 << 16 | 1, 1 << 31 | 1, LEAST, MOST}, (x, n) -> x.array(0, n)));
        check.sentence("or it is too deep (array)", () -> {
            typeEndsAtDepth16("type", (x, type) -> x.array(type, 1));
            scopeEndsAtDepth16("type", (x, type) -> x.array(type, 1));
        });
    }

    /** A call with three parameters. */
    private interface Parameters {
        int take(NameWriter x, int a, int b, int c);
    }

    /** None to three of them, and each way in which one stands behind a NONE. */
    private static void fromTheFirstNoneOn(Parameters call) {
        NameWriter x = Zoo.make();
        int i = call.take(x, NONE, NONE, NONE);
        check.same("none", x.of(i, 4) + " " + x.of(i, 5) + " " + x.of(i, 6), "-1 -1 -1");
        int j = call.take(x, 4, NONE, NONE);
        check.same("one", x.of(j, 4) + " " + x.of(j, 5) + " " + x.of(j, 6), "4 -1 -1");
        int k = call.take(x, 4, 5, NONE);
        check.same("two", x.of(k, 4) + " " + x.of(k, 5) + " " + x.of(k, 6), "4 5 -1");
        int l = call.take(x, 4, 5, 6);
        check.same("three", x.of(l, 4) + " " + x.of(l, 5) + " " + x.of(l, 6), "4 5 6");
        NameWriter y = Zoo.make();
        check.refusesUnchanged("the second alone", BAD, y, () -> call.take(y, NONE, 4, NONE));
        check.refuses("the third alone", BAD, () -> call.take(y, NONE, NONE, 4));
        check.refuses("not the first", BAD, () -> call.take(y, NONE, 4, 4));
        check.refuses("not the second", BAD, () -> call.take(y, 4, NONE, 4));
        check.refuses("no node behind NONE", BAD, () -> call.take(y, NONE, 60, NONE));
        check.refuses("no node behind NONE", BAD, () -> call.take(y, 4, NONE, -2));
        check.answers("nodes", 11, () -> y.look(0));
    }

    private static void takesParameters(Parameters call) {
        takesKinds("the only one", 0, 8, (x, a) -> call.take(x, a, NONE, NONE));
        takesKinds("first of two", 0, 8, (x, a) -> call.take(x, a, 0, NONE));
        takesKinds("first of three", 0, 8, (x, a) -> call.take(x, a, 0, 0));
        takesKinds("second of two", 0, 8, (x, b) -> call.take(x, 0, b, NONE));
        takesKinds("second of three", 0, 8, (x, b) -> call.take(x, 0, b, 0));
        takesKinds("third", 0, 8, (x, c) -> call.take(x, 0, 0, c));
    }

    private static void refusesVoid(Parameters call) {
        NameWriter x = Zoo.make();
        int v = x.builtin(0);
        check.refusesUnchanged("the only one", BAD, x, () -> call.take(x, v, NONE, NONE));
        check.refuses("first of two", BAD, () -> call.take(x, v, 0, NONE));
        check.refuses("first of three", BAD, () -> call.take(x, v, 0, 0));
        check.refuses("second of two", BAD, () -> call.take(x, 0, v, NONE));
        check.refuses("second of three", BAD, () -> call.take(x, 0, v, 0));
        check.refuses("third", BAD, () -> call.take(x, 0, 0, v));
        check.answers("nodes", 12, () -> x.look(0));
        int b = x.builtin(1);
        int toVoid = x.wrap(4, v);
        int constVoid = x.wrap(6, v);
        check.answers("others are taken", 15, () -> call.take(x, b, toVoid, constVoid));
    }

    private static void parametersEndAtDepth16(Parameters call) {
        typeEndsAtDepth16("first", (x, a) -> call.take(x, a, NONE, NONE));
        typeEndsAtDepth16("second", (x, b) -> call.take(x, 0, b, NONE));
        typeEndsAtDepth16("third", (x, c) -> call.take(x, 0, 0, c));
    }

    private static void function() {
        Parameters call = (x, a, b, c) -> x.function(0, a, b, c);
        check.sentence("those of a, b, c from the first NONE on must be NONE.", () -> fromTheFirstNoneOn(call));
        check.sentence("IllegalArgumentException if there are no such types (function)", () -> {
            takesKinds("gives", 0, 8, (x, gives) -> x.function(gives, 0, 0, 0));
            needsOne("gives", (x, gives) -> x.function(gives, 0, 0, 0));
            needsOne("gives", (x, gives) -> x.function(gives, NONE, NONE, NONE));
            takesParameters(call);
        });
        check.sentence("a parameter is v", () -> {
            refusesVoid(call);
            NameWriter x = new NameWriter();
            x.builtin(0);
            check.answers("it may give v", 1, () -> x.function(0, NONE, NONE, NONE));
        });
        check.sentence("or it is too deep (function)", () -> {
            typeEndsAtDepth16("gives", (x, gives) -> x.function(gives, NONE, NONE, NONE));
            parametersEndAtDepth16(call);
        });
    }

    private static void literal() {
        check.sentence("IllegalArgumentException if there is no such BUILTIN", () -> {
            takesKinds("BUILTIN", 0, 0, (x, builtin) -> x.literal(builtin, 1));
            needsOne("BUILTIN", (x, builtin) -> x.literal(builtin, 1));
        });
        check.sentence("it is v", () -> {
            NameWriter x = new NameWriter();
            for (int k = 0; k < 8; k++) {
                x.builtin(k);
            }
            check.refusesUnchanged("v", BAD, x, () -> x.literal(0, 1));
            for (int k = 1; k < 8; k++) {
                int builtin = k;
                check.answers("builtin " + k, 7 + k, () -> x.literal(builtin, 1));
            }
        });
        check.sentence("or the value is none.", () -> takesValues("value",
            new int[] {-999999, -999998, -1, 0, 1, 999998, 999999},
            new int[] {-1000000, -1000001, 1000000, 1000001, LEAST, LEAST + 1, MOST}, (x, value) -> x.literal(0, value)));
    }

    private static void entity() {
        Parameters call = (x, a, b, c) -> x.entity(2, NONE, a, b, c);
        Parameters filled = (x, a, b, c) -> x.entity(3, 0, a, b, c);
        check.sentence("gives is NONE if scoped is not FILLED", () -> {
            NameWriter x = Zoo.make();
            check.refusesUnchanged("a NAME", BAD, x, () -> x.entity(1, 0, NONE, NONE, NONE));
            check.refuses("a MEMBER", BAD, () -> x.entity(2, 0, NONE, NONE, NONE));
            check.refuses("a NAME, and no node", BAD, () -> x.entity(1, -2, NONE, NONE, NONE));
            check.refuses("a MEMBER, and no node", BAD, () -> x.entity(2, 11, NONE, NONE, NONE));
            check.same("a NAME", Check.cellsOf(x, x.entity(1, NONE, NONE, NONE, NONE)), "10 0 1 -1 -1 -1 -1 2");
            check.same("a MEMBER", Check.cellsOf(x, x.entity(2, NONE, NONE, NONE, NONE)), "10 0 2 -1 -1 -1 -1 3");
            check.same("a FILLED", Check.cellsOf(x, x.entity(3, 0, NONE, NONE, NONE)), "10 0 3 0 -1 -1 -1 3");
        });
        check.sentence("10 ENTITY: .. for a FILLED one a type that it gives", () -> {
            takesKinds("gives", 0, 8, (x, gives) -> x.entity(3, gives, 0, 0, 0));
            needsOne("gives", (x, gives) -> x.entity(3, gives, 0, 0, 0));
            needsOne("gives", (x, gives) -> x.entity(3, gives, NONE, NONE, NONE));
            NameWriter x = Zoo.make();
            x.builtin(0);
            check.answers("it may give v", 12, () -> x.entity(3, 11, NONE, NONE, NONE));
        });
        check.sentence("parameters as for function.", () -> {
            fromTheFirstNoneOn(call);
            fromTheFirstNoneOn(filled);
            refusesVoid(call);
            refusesVoid(filled);
        });
        check.sentence("IllegalArgumentException if there are no such nodes (entity)", () -> {
            takesKinds("SCOPED", 1, 2, (x, scoped) -> x.entity(scoped, NONE, 4, NONE, NONE));
            takesKinds("SCOPED that gives", 3, 3, (x, scoped) -> x.entity(scoped, 0, 4, NONE, NONE));
            needsOne("SCOPED", (x, scoped) -> x.entity(scoped, NONE, NONE, NONE, NONE));
            needsOne("SCOPED that gives", (x, scoped) -> x.entity(scoped, 0, NONE, NONE, NONE));
            takesParameters(call);
            takesParameters(filled);
        });
        check.sentence("or it is too deep (entity)", () -> {
            scopeEndsAtDepth16("SCOPED", (x, scoped) -> x.entity(scoped, NONE, NONE, NONE, NONE));
            typeEndsAtDepth16("gives", (x, gives) -> x.entity(DEEP_FILLED, gives, NONE, NONE, NONE));
            parametersEndAtDepth16((x, a, b, c) -> x.entity(1, NONE, a, b, c));
            parametersEndAtDepth16((x, a, b, c) -> x.entity(DEEP_FILLED, 0, a, b, c));
        });
    }

    private static void of() {
        check.sentence("w = 0: its kind .. 7: its DEPTH.", NodeEdgeTest::allCells);
        check.sentence("1: its BUILTIN k, ID, or number (of ARRAY, LITERAL), 0 if it has none", () -> {
            NameWriter x = Zoo.make();
            int[] due = {4, 'a', 'b', 0, 0, 0, 0, 7, 0, 5, 0};
            for (int kind = 0; kind <= 10; kind++) {
                int node = kind;
                check.answers("kind " + kind, due[kind], () -> x.of(node, 1));
            }
            check.answers("BUILTIN v", 0, () -> x.of(x.builtin(0), 1));
            check.answers("LITERAL 0", 0, () -> x.of(x.literal(0, 0), 1));
            check.answers("LITERAL -1", -1, () -> x.of(x.literal(0, -1), 1));
        });
        check.sentence("NONE for those that it has not", () -> {
            NameWriter x = Zoo.make();
            String[] due = {"-1 -1 -1 -1 -1", "-1 -1 -1 -1 -1", "1 -1 -1 -1 -1", "1 -1 0 -1 -1", "0 -1 -1 -1 -1",
                "0 -1 -1 -1 -1", "0 -1 -1 -1 -1", "0 -1 -1 -1 -1", "0 -1 0 -1 -1", "0 -1 -1 -1 -1", "1 -1 0 -1 -1"};
            for (int kind = 0; kind <= 10; kind++) {
                StringBuilder parts = new StringBuilder();
                for (int w = 2; w <= 6; w++) {
                    parts.append(w == 2 ? "" : " ").append(x.of(kind, w));
                }
                check.same("kind " + kind, parts.toString(), due[kind]);
            }
        });
        check.sentence("NONE if there is no such node", () -> {
            for (int node : new int[] {NONE, -2, 11, 12, 59, 60, 61, 1 << 28, 1 << 29, 1 << 30, LEAST, MOST}) {
                NameWriter x = Zoo.make();
                check.same("node " + node, Check.cellsOf(x, node), "-1 -1 -1 -1 -1 -1 -1 -1");
            }
        });
        check.sentence("NONE if there is no such .. w.", () -> {
            NameWriter x = Zoo.make();
            for (int w : new int[] {-1, -8, 8, 9, 16, 256, LEAST, MOST}) {
                for (int node : new int[] {0, 5, 10, 11}) {
                    check.answers("node " + node + ", w " + w, NONE, () -> x.of(node, w));
                }
            }
        });
    }

    private static void allCells() {
        NameWriter x = Zoo.make();
        String[] due = {
            "0 4 -1 -1 -1 -1 -1 1", "1 97 -1 -1 -1 -1 -1 1", "2 98 1 -1 -1 -1 -1 2", "3 0 1 -1 0 -1 -1 2",
            "4 0 0 -1 -1 -1 -1 2", "5 0 0 -1 -1 -1 -1 2", "6 0 0 -1 -1 -1 -1 2", "7 7 0 -1 -1 -1 -1 2",
            "8 0 0 -1 0 -1 -1 2", "9 5 0 -1 -1 -1 -1 2", "10 0 1 -1 0 -1 -1 2",
        };
        for (int node = 0; node < due.length; node++) {
            check.same("node " + node, Check.cellsOf(x, node), due[node]);
        }
        check.same("three arguments", Check.cellsOf(x, x.fill(2, 9, 4, 7)), "3 0 2 -1 9 4 7 3");
        check.same("three parameters", Check.cellsOf(x, x.function(11, 8, 7, 6)), "8 0 11 -1 8 7 6 4");
        check.same("all parts", Check.cellsOf(x, x.entity(11, 12, 5, 4, 1)), "10 0 11 12 5 4 1 5");
    }
}
