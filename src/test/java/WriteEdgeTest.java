import java.util.function.IntFunction;

/**
 * Promise 12 and the terms of WRITING: each sentence that names a boundary has a test of its own. All entities are made
 * by calls, so that nothing here leans on read().
 */
public final class WriteEdgeTest {
    private static final int NONE = Check.NONE;
    private static final String BAD = Check.BAD;
    private static final Check check = new Check();

    public static void main(String[] args) {
        numbers();
        pieces();
        prefixes();
        types();
        entities();
        check.sentence("it is at most 16.", WriteEdgeTest::deepest);
        promise12();
        check.end();
    }

    private static void writes(NameWriter x, int entity, String due, String table) {
        check.answers("write " + due, due.length(), () -> x.write(entity));
        check.same("the text", Check.textOf(x), due);
        check.answers("characters", due.length(), () -> x.look(1));
        check.same("the table of " + due, Tree.table(x), table);
    }

    private static void numbers() {
        check.sentence("There is a TABLE of nodes, empty at first", () -> {
            NameWriter x = Zoo.make();
            int one = x.entity(1, NONE, 4, 4, 2);
            int other = x.entity(1, NONE, 2, 4, NONE);
            writes(x, one, "_Z1aPiS_N1a1bE", "P(i) a a::b");
            writes(x, one, "_Z1aPiS_N1a1bE", "P(i) a a::b");
            writes(x, other, "_Z1aN1a1bEPi", "a a::b P(i)");
            writes(x, 10, "_Z1ai", "");
        });
        check.sentence("numbered 0, 1, ...", () -> {
            NameWriter x = Zoo.make();
            x.write(x.entity(1, NONE, 4, 5, 6));
            check.same("the table", x.table(0) + " " + x.table(1) + " " + x.table(2) + " " + x.table(3), "4 5 6 -1");
        });
        check.sentence("is written as S, then nothing for number 0", () -> {
            NameWriter x = Zoo.make();
            writes(x, x.entity(1, NONE, 4, 4, 4), "_Z1aPiS_S_", "P(i)");
        });
        check.sentence("else its number less 1 to the base 36 (digits 0 .. 9, A .. Z, the highest first), then _ .",
            WriteEdgeTest::everyNumber);
    }

    private static int chain(NameWriter x, int kind, int type, int count) {
        int node = type;
        for (int n = 0; n < count; n++) {
            node = x.wrap(kind, node);
        }
        return node;
    }

    /** A text with 53 nodes in its table, and behind them each of these told by its number. */
    private static void everyNumber() {
        String head = "_Z1sI" + "P".repeat(13) + "i" + "R".repeat(13) + "i" + "P".repeat(12) + "A1_iE" + "R".repeat(12) + "A2_i";
        for (int number = 0; number < 53; number++) {
            NameWriter x = new NameWriter();
            int i = x.builtin(4);
            int s = x.name('s');
            int filled = x.fill(s, chain(x, 4, i, 13), chain(x, 5, i, 13), chain(x, 4, x.array(i, 1), 12));
            int gives = chain(x, 5, x.array(i, 2), 12);
            x.write(x.entity(filled, gives, NONE, NONE, NONE));
            check.answers("the table's size", 53, () -> x.look(2));
            int told = x.table(number);
            String digits = number == 0 ? "" : Integer.toString(number - 1, 36).toUpperCase();
            check.same("number " + number, Check.written(x, x.entity(filled, gives, told, NONE, NONE)), head + "S" + digits + "_");
            check.answers("the table's size", 53, () -> x.look(2));
        }
    }

    private static void pieces() {
        check.sentence("0 BUILTIN: one of v b c s i j l x.", () -> {
            for (int k = 0; k < 8; k++) {
                NameWriter x = new NameWriter();
                x.name('f');
                x.wrap(4, x.builtin(k));
                writes(x, x.entity(0, NONE, 2, NONE, NONE), "_Z1fP" + "vbcsijlx".charAt(k), "P(" + "vbcsijlx".charAt(k) + ")");
            }
        });
        check.sentence("An ID is written as its length and itself.", () -> {
            NameWriter x = new NameWriter();
            int zyx = x.name(Check.id("zyx"));
            int az = x.name(Check.id("az"));
            writes(x, x.entity(zyx, NONE, az, x.name('m'), x.name(Check.id("aaa"))), "_Z3zyx2az1m3aaa", "az m aaa");
            int member = x.member(x.member(zyx, Check.id("bc")), Check.id("def"));
            writes(x, x.entity(member, NONE, NONE, NONE, NONE), "_ZN3zyx2bc3defEv", "zyx zyx::bc");
        });
        check.sentence("ARGS: I, each argument .. then E.", () -> {
            NameWriter x = Zoo.make();
            writes(x, x.entity(1, NONE, x.fill(1, 0, NONE, NONE), NONE, NONE), "_Z1a1aIiE", "a a<i>");
            writes(x, x.entity(1, NONE, x.fill(1, 4, 9, NONE), NONE, NONE), "_Z1a1aIPiLi5EE", "a P(i) a<P(i),5i>");
            writes(x, x.entity(1, NONE, x.fill(1, 9, 0, 9), NONE, NONE), "_Z1a1aILi5EiLi5EE", "a a<5i,i,5i>");
            writes(x, x.entity(1, NONE, x.fill(1, x.builtin(0), NONE, NONE), NONE, NONE), "_Z1a1aIvE", "a a<v>");
        });
        check.sentence("L, the BUILTIN, n if the number is below 0, the number without sign in decimal digits, E",
            WriteEdgeTest::literals);
        check.sentence("PARAMS: each as a type; v if there are none.", () -> {
            NameWriter x = Zoo.make();
            writes(x, x.entity(1, NONE, NONE, NONE, NONE), "_Z1av", "");
            writes(x, x.entity(1, NONE, 0, NONE, NONE), "_Z1ai", "");
            writes(x, x.entity(1, NONE, 0, 4, NONE), "_Z1aiPi", "P(i)");
            writes(x, x.entity(1, NONE, 5, 0, 4), "_Z1aRiiPi", "R(i) P(i)");
            int none = x.function(0, NONE, NONE, NONE);
            writes(x, x.entity(3, 0, NONE, NONE, NONE), "_Z1aIiEiv", "a");
            writes(x, x.entity(1, NONE, none, x.function(0, 0, 0, NONE), x.function(0, 0, 0, 0)), "_Z1aFivEFiiiEFiiiiE",
                "F(i;) F(i;i,i) F(i;i,i,i)");
        });
    }

    private static void literals() {
        int[] values = {0, 1, 9, 10, 11, 99, 100, 101, 999, 1000, 1001, 9999, 10000, 10010, 99999, 100000, 100001, 999999};
        for (int value : values) {
            for (int k = 1; k < 8; k++) {
                NameWriter x = new NameWriter();
                x.name('f');
                x.builtin(k);
                int filled = x.fill(0, x.literal(1, value), x.literal(1, -value), NONE);
                String number = "vbcsijlx".charAt(k) + (value == 0 ? "" : "n") + value;
                String due = "_Z1f1fIL" + number.replace("n", "") + "EL" + number + "EE";
                check.same("LITERAL " + value, Check.written(x, x.entity(0, NONE, filled, NONE, NONE)), due);
                check.answers("LITERALS do not come into the table", 2, () -> x.look(2));
            }
        }
    }

    private static void prefixes() {
        check.sentence("A PREFIX that the table has is written so.", () -> {
            NameWriter x = Zoo.make();
            int ofMember = x.member(2, 'c');
            int ofFilled = x.member(3, 'c');
            writes(x, x.entity(1, NONE, 1, 2, ofMember), "_Z1a1aNS_1bENS0_1cE", "a a::b a::b::c");
            writes(x, x.entity(1, NONE, 3, ofFilled, 1), "_Z1a1aIiENS0_1cES_", "a a<i> a<i>::c");
            writes(x, x.entity(ofMember, NONE, 2, 1, ofMember), "_ZN1a1b1cES0_S_NS0_1cE", "a a::b a::b::c");
        });
        check.sentence("Otherwise a NAME: its ID. A MEMBER: its prefix, its ID. A FILLED: what is filled, as a prefix; ARGS.", () -> {
            NameWriter x = Zoo.make();
            int filled = x.fill(2, 1, 2, NONE);
            int deep = x.member(x.member(filled, 'c'), 'd');
            writes(x, x.entity(deep, NONE, NONE, NONE, NONE), "_ZN1a1bIS_S0_E1c1dEv",
                "a a::b a::b<a,a::b> a::b<a,a::b>::c");
            writes(x, x.entity(x.name('f'), NONE, deep, NONE, NONE), "_Z1fN1a1bIS_S0_E1c1dE",
                "a a::b a::b<a,a::b> a::b<a,a::b>::c a::b<a,a::b>::c::d");
        });
        check.sentence("Behind it it comes into the table.", () -> {
            NameWriter x = Zoo.make();
            int filled = x.fill(1, 4, x.wrap(5, 4), NONE);
            writes(x, x.entity(x.member(filled, 'm'), NONE, filled, 4, 5), "_ZN1aIPiRS0_E1mES2_S0_Ri",
                "a P(i) R(P(i)) a<P(i),R(P(i))> R(i)");
        });
    }

    private static void types() {
        check.sentence("A TYPE: a BUILTIN: its letter.", () -> {
            NameWriter x = Zoo.make();
            writes(x, x.entity(1, NONE, 0, 0, 0), "_Z1aiii", "");
            writes(x, x.entity(3, 0, 0, 0, 0), "_Z1aIiEiiii", "a");
        });
        check.sentence("One that the table has: so.", () -> {
            String[] first = {"1a", "N1a1bE", "1aIiE", "Pi", "Ri", "Ki", "A7_i", "FiiE"};
            String[] told = {"S_", "S0_", "S0_", "S_", "S_", "S_", "S_", "S_"};
            for (int type = 1; type <= 8; type++) {
                NameWriter x = Zoo.make();
                check.same("twice", Check.written(x, x.entity(1, NONE, type, type, NONE)), "_Z1a" + first[type - 1] + told[type - 1]);
                int pointer = x.wrap(4, type);
                check.same("inside", Check.written(x, x.entity(1, NONE, type, pointer, NONE)),
                    "_Z1a" + first[type - 1] + "P" + told[type - 1]);
                check.same("from inside", Check.written(x, x.entity(1, NONE, pointer, type, NONE)),
                    "_Z1aP" + first[type - 1] + told[type - 1]);
            }
        });
        check.sentence("A FILLED NAME: the NAME as a prefix, ARGS.", () -> {
            NameWriter x = Zoo.make();
            int other = x.fill(1, 0, 0, NONE);
            writes(x, x.entity(1, NONE, 3, other, 1), "_Z1a1aIiES_IiiES_", "a a<i> a<i,i>");
            writes(x, x.entity(1, NONE, 1, 3, other), "_Z1a1aS_IiES_IiiE", "a a<i> a<i,i>");
        });
        check.sentence("A FILLED MEMBER: N, the MEMBER as a prefix, ARGS, E.", () -> {
            NameWriter x = Zoo.make();
            int one = x.fill(2, 0, NONE, NONE);
            int other = x.fill(2, 1, NONE, NONE);
            writes(x, x.entity(1, NONE, one, other, 2), "_Z1aN1a1bIiEENS0_IS_EES0_", "a a::b a::b<i> a::b<a>");
        });
        check.sentence("A, the number, _, the type.", () -> {
            for (int n : new int[] {1, 9, 10, 99, 100, 101, 110, 998, 999}) {
                NameWriter x = Zoo.make();
                writes(x, x.entity(1, NONE, x.array(4, n), NONE, NONE), "_Z1aA" + n + "_Pi", "P(i) A" + n + "(P(i))");
            }
        });
        check.sentence("F, the type that it gives, PARAMS, E.", () -> {
            NameWriter x = Zoo.make();
            int none = x.function(x.builtin(0), NONE, NONE, NONE);
            int taker = x.function(none, none, 4, 0);
            writes(x, x.entity(1, NONE, taker, taker, none), "_Z1aFFvvES_PiiES1_S_", "F(v;) P(i) F(F(v;);F(v;),P(i),i)");
        });
        check.sentence("A CONST is of no CONST.", () -> {
            NameWriter x = Zoo.make();
            writes(x, x.entity(1, NONE, x.wrap(6, x.wrap(4, 6)), NONE, NONE), "_Z1aKPKi", "K(i) P(K(i)) K(P(K(i)))");
        });
    }

    private static void entities() {
        check.sentence("its SCOPED as a type that the table does not have, but it does not come into the table (parts of it do)", () -> {
            NameWriter x = Zoo.make();
            int filledMember = x.fill(2, 0, NONE, NONE);
            writes(x, x.entity(1, NONE, 1, 1, NONE), "_Z1a1aS_", "a");
            writes(x, x.entity(2, NONE, 2, 2, 1), "_ZN1a1bENS_1bES0_S_", "a a::b");
            writes(x, x.entity(3, 3, 3, 1, NONE), "_Z1aIiES_IiES0_S_", "a a<i>");
            writes(x, x.entity(filledMember, filledMember, filledMember, 2, 1), "_ZN1a1bIiEENS0_IiEES1_S0_S_", "a a::b a::b<i>");
        });
        check.sentence("the type that it gives, if it has one", () -> {
            NameWriter x = Zoo.make();
            writes(x, x.entity(3, 4, 4, NONE, NONE), "_Z1aIiEPiS0_", "a P(i)");
            writes(x, x.entity(3, x.builtin(0), NONE, NONE, NONE), "_Z1aIiEvv", "a");
            writes(x, x.entity(x.member(3, 'm'), NONE, NONE, NONE, NONE), "_ZN1aIiE1mEv", "a a<i>");
        });
    }

    /** A call that puts one more node around a part. */
    private interface Wrapping {
        int around(NameWriter x, int part);
    }

    /** Nodes nested in each way until the entity's DEPTH is 16: all of them are written. */
    private static void deepest() {
        nests(14, "P", "P", "", (x, part) -> x.wrap(4, part));
        nests(14, "A9_", "A9_", "", (x, part) -> x.array(part, 9));
        nests(14, "F", "F", "vE", (x, part) -> x.function(part, NONE, NONE, NONE));
        nests(14, "Fi", "Fi", "E", (x, part) -> x.function(0, part, NONE, NONE));
        nests(14, "Fii", "Fii", "E", (x, part) -> x.function(0, 0, part, NONE));
        nests(14, "Fiii", "Fiii", "E", (x, part) -> x.function(0, 0, 0, part));
        nests(14, "1aI", "S_I", "E", (x, part) -> x.fill(1, part, NONE, NONE));
        nests(14, "1aIi", "S_Ii", "E", (x, part) -> x.fill(1, 0, part, NONE));
        nests(14, "1aIii", "S_Iii", "E", (x, part) -> x.fill(1, 0, 0, part));
        nests(13, "N1a1bI", "NS0_I", "EE", (x, part) -> x.fill(2, part, NONE, NONE));
        nests(7, "N1aI", "NS_I", "E1qE", (x, part) -> x.member(x.fill(1, part, NONE, NONE), 'q'));
        scopes(14, "1m", (x, part) -> x.member(part, 'm'));
        scopes(7, "IiE1m", (x, part) -> x.member(x.fill(part, 0, NONE, NONE), 'm'));
    }

    /** A parameter that begins with i; what is ahead of it is written in another way behind the outermost. */
    private static void nests(int count, String outermost, String ahead, String behind, Wrapping wrapping) {
        NameWriter x = Zoo.make();
        int part = 0;
        for (int n = 0; n < count; n++) {
            part = wrapping.around(x, part);
        }
        hasDepth16(x, x.entity(1, NONE, part, NONE, NONE), "_Z1a" + outermost + ahead.repeat(count - 1) + "i" + behind.repeat(count));
    }

    /** A SCOPED that begins with a. */
    private static void scopes(int count, String step, Wrapping wrapping) {
        NameWriter x = Zoo.make();
        int part = 1;
        for (int n = 0; n < count; n++) {
            part = wrapping.around(x, part);
        }
        hasDepth16(x, x.entity(part, NONE, NONE, NONE, NONE), "_ZN1a" + step.repeat(count) + "Ev");
        hasDepth16(x, x.entity(1, NONE, part, NONE, NONE), "_Z1aN1a" + step.repeat(count) + "E");
    }

    private static void hasDepth16(NameWriter x, int entity, String due) {
        check.answers("the depth of " + due, 16, () -> x.of(entity, 7));
        check.answers("write " + due, due.length(), () -> x.write(entity));
        check.same("the text", Check.textOf(x), due);
    }

    private static void promise12() {
        check.sentence("The entity is WRITTEN, the text is that: how many characters.", () -> {
            NameWriter x = Zoo.make();
            Check.load(x, "x".repeat(120));
            writes(x, 10, "_Z1ai", "");
            check.answers("behind the last", NONE, () -> x.text(5));
            writes(x, x.entity(1, NONE, 2, 7, 8), "_Z1aN1a1bEA7_iFiiE", "a a::b A7(i) F(i;i)");
            writes(x, 10, "_Z1ai", "");
            x.wipe();
            writes(x, 10, "_Z1ai", "");
        });
        check.sentence("IllegalArgumentException if there is no such ENTITY", () -> {
            NameWriter x = Zoo.make();
            x.write(10);
            for (int node : new int[] {0, 1, 2, 3, 4, 5, 6, 7, 8, 9, NONE, -2, 11, 60, 1 << 29, Integer.MIN_VALUE, Integer.MAX_VALUE}) {
                check.refuses("node " + node, BAD, () -> x.write(node));
            }
            check.refusesUnchanged("node 9", BAD, x, () -> x.write(9));
            check.refusesUnchanged("node 11", BAD, x, () -> x.write(11));
            check.answers("the entity", 5, () -> x.write(10));
        });
        check.sentence("UnsupportedOperationException if it would have more than 120.", () -> {
            endings();
            farTooLong();
        });
    }

    /** Nodes 0 and 1 are i and f; then three FILLED ones, at 5, 9 and 13, each of which takes 34 characters. */
    private static NameWriter wide() {
        NameWriter x = new NameWriter();
        x.builtin(4);
        x.name('f');
        for (int n = 0; n < 3; n++) {
            addWide(x, n);
        }
        return x;
    }

    private static int addWide(NameWriter x, int n) {
        int number = -999999 + 3 * n;
        return x.fill(1, x.literal(0, number), x.literal(0, number + 1), x.literal(0, number + 2));
    }

    private static String wideText(String f, int n) {
        int number = 999999 - 3 * n;
        return f + "ILin" + number + "ELin" + (number - 1) + "ELin" + (number - 2) + "EE";
    }

    /** An entity of a wide object with so many POINTERS in it. */
    private interface Growing {
        int entity(NameWriter x, int pointers);
    }

    /** What would be the 121st character is of another sort each time. */
    private static void endings() {
        String two = "F" + wideText("S_", 1) + wideText("S_", 2) + "E";
        IntFunction<String> head = count -> "_Z1f" + "P".repeat(count) + wideText("1f", 0);
        ending("a BUILTIN", (x, count) -> x.entity(1, NONE, chain(x, 4, 5, count), x.function(9, 13, NONE, NONE), 0),
            count -> head.apply(count) + two + "i");
        ending("what is told", (x, count) -> x.entity(1, NONE, chain(x, 4, 5, count), x.function(9, 13, NONE, NONE), 1),
            count -> head.apply(count) + two + "S_");
        ending("what is told", (x, count) -> x.entity(1, NONE, chain(x, 4, 5, count), x.function(9, 13, NONE, NONE), 5),
            count -> head.apply(count) + two + "S0_");
        ending("an ID", (x, count) -> x.entity(1, NONE, chain(x, 4, 5, count), x.function(9, 13, NONE, NONE), x.name(Check.id("abc"))),
            count -> head.apply(count) + two + "3abc");
        ending("a MEMBER", (x, count) -> x.entity(1, NONE, chain(x, 4, 5, count), x.function(9, 13, NONE, NONE), x.member(1, 'q')),
            count -> head.apply(count) + two + "NS_1qE");
        ending("an ARRAY", (x, count) -> x.entity(1, NONE, chain(x, 4, 5, count), x.function(9, 13, NONE, NONE), x.array(0, 999)),
            count -> head.apply(count) + two + "A999_i");
        ending("a FUNCTION", (x, count) -> x.entity(1, NONE, chain(x, 4, 5, count), 0, x.function(9, 13, NONE, NONE)),
            count -> head.apply(count) + "i" + two);
        ending("a FUNCTION of none", (x, count) -> x.entity(1, NONE, chain(x, 4, 5, count), x.function(9, NONE, NONE, NONE),
            x.function(13, NONE, NONE, NONE)),
            count -> head.apply(count) + "F" + wideText("S_", 1) + "vEF" + wideText("S_", 2) + "vE");
        ending("ARGS", (x, count) -> x.entity(1, NONE, x.function(5, 9, NONE, NONE), chain(x, 4, 0, count), 13),
            count -> "_Z1fF" + wideText("1f", 0) + wideText("S_", 1) + "E" + "P".repeat(count) + "i" + wideText("S_", 2));
        ending("no PARAMS", (x, count) -> x.entity(x.fill(1, 5, 9, 13), chain(x, 4, 0, count), NONE, NONE, NONE),
            count -> "_Z1fI" + wideText("S_", 0) + wideText("S_", 1) + wideText("S_", 2) + "E" + "P".repeat(count) + "iv");
    }

    private static void ending(String what, Growing growing, IntFunction<String> due) {
        check.same(what + " goes past 120", due.apply(0).length() <= 119 && due.apply(12).length() >= 121, true);
        for (int count = 0; count <= 12; count++) {
            NameWriter x = wide();
            int entity = growing.entity(x, count);
            String text = due.apply(count);
            if (text.length() <= 120) {
                check.answers(what + ", write", text.length(), () -> x.write(entity));
                check.same(what + ", the text", Check.textOf(x), text);
            } else {
                Check.load(x, "before");
                check.refusesUnchanged(what + ", " + text.length(), Check.LONG, x, () -> x.write(entity));
            }
        }
    }

    private static void farTooLong() {
        NameWriter x = wide();
        int[] functions = new int[3];
        for (int n = 0; n < 3; n++) {
            functions[n] = x.function(addWide(x, 3 * n), addWide(x, 3 * n + 1), addWide(x, 3 * n + 2), NONE);
        }
        int entity = x.entity(1, NONE, functions[0], functions[1], functions[2]);
        int small = x.entity(1, NONE, 5, 5, 1);
        x.write(small);
        check.refusesUnchanged("far too long", Check.LONG, x, () -> x.write(entity));
        writes(x, small, "_Z1f" + wideText("1f", 0) + "S0_S_", "f f<-999999i,-999998i,-999997i>");
    }
}
