/** Promises 13, 14, 15, 17 and 18: each sentence that names a boundary has a test of its own. */
public final class TextEdgeTest {
    private static final int NONE = Check.NONE;
    private static final int LEAST = Integer.MIN_VALUE;
    private static final int MOST = Integer.MAX_VALUE;
    private static final String BAD = Check.BAD;
    private static final Check check = new Check();

    public static void main(String[] args) {
        type();
        wipe();
        text();
        table();
        look();
        check.end();
    }

    private static void typed(String what, boolean due, NameWriter x, long part) {
        check.same(what, x.type(part), due);
    }

    private static void has(NameWriter x, String due) {
        check.same("the text", Check.textOf(x), due);
        check.answers("characters", due.length(), () -> x.look(1));
    }

    /** A new object with count characters. */
    private static NameWriter filledTo(int count) {
        NameWriter x = new NameWriter();
        for (int n = 0; n + 8 <= count; n += 8) {
            x.type(Check.part("abcdefgh"));
        }
        x.type(Check.part("ABCDEFGH".substring(0, count % 8)));
        check.answers("characters so far", count, () -> x.look(1));
        return x;
    }

    private static void type() {
        check.sentence("the eight bytes of part, the highest first", () -> {
            NameWriter x = new NameWriter();
            typed("eight", true, x, 0x4142434445464748L);
            typed("eight more, to the text", true, x, 0x6162636465666768L);
            has(x, "ABCDEFGHabcdefgh");
            NameWriter y = Zoo.make();
            y.write(10);
            typed("behind what was written", true, y, 0x69L);
            has(y, "_Z1aii");
            y.read();
            typed("behind what was read", true, y, 0x50695069L);
            has(y, "_Z1aiiPiPi");
        });
        check.sentence("(bytes that are 0 are passed over)", TextEdgeTest::zeros);
        check.sentence("false if another byte is not 33 .. 126", TextEdgeTest::everyByte);
        check.sentence("or there would be more than 120.", TextEdgeTest::moreThan120);
        check.sentence("What throws, or answers false, changes nothing.", () -> {
            NameWriter x = Zoo.make();
            Check.read(x, "_Z1aPi1a");
            String before = Check.stateOf(x);
            for (long part : new long[] {0x4142434445464720L, 0x2042434445464748L, 0x41424344457f4748L, -1L, Long.MIN_VALUE,
                Long.MAX_VALUE, 0x80L, 1L, 0x0141L, 0x4101L}) {
                typed("part " + part, false, x, part);
            }
            check.same("the state", Check.stateOf(x), before);
        });
    }

    /** Each way in which some of the eight bytes are 0. */
    private static void zeros() {
        for (int mask = 0; mask < 256; mask++) {
            long part = 0;
            StringBuilder due = new StringBuilder("_");
            for (int n = 0; n < 8; n++) {
                boolean zero = (mask >> n & 1) == 0;
                part = part << 8 | (zero ? 0 : 'a' + n);
                due.append(zero ? "" : (char) ('a' + n));
            }
            NameWriter x = new NameWriter();
            x.type('_');
            typed("zeros " + mask, true, x, part);
            has(x, due.toString());
        }
    }

    /** Each byte other than 0 at each of the eight places, among letters and among zeros. */
    private static void everyByte() {
        for (int shift = 0; shift < 64; shift += 8) {
            int place = 7 - shift / 8;
            for (long letter = 1; letter < 256; letter++) {
                boolean right = letter >= 33 && letter <= 126;
                NameWriter x = new NameWriter();
                typed("byte " + letter + " alone", right, x, letter << shift);
                check.answers("characters", right ? 1 : 0, () -> x.look(1));
                long due = right ? letter : NONE;
                check.answers("character", due, () -> x.text(0));
                NameWriter y = new NameWriter();
                typed("byte " + letter, right, y, Check.part("mmmmmmmm") & ~(255L << shift) | letter << shift);
                check.answers("characters", right ? 8 : 0, () -> y.look(1));
                check.answers("character", due, () -> y.text(place));
            }
        }
    }

    private static void moreThan120() {
        for (int count = 110; count <= 120; count++) {
            for (int more = 0; more <= 8; more++) {
                NameWriter x = filledTo(count);
                boolean right = count + more <= 120;
                String before = Check.textOf(x);
                String letters = "ijklmnop".substring(0, more);
                typed(more + " behind " + count, right, x, Check.part(letters));
                has(x, right ? before + letters : before);
            }
        }
        NameWriter x = filledTo(119);
        typed("two with zeros between them", false, x, 0x4100000000000042L);
        check.answers("characters", 119, () -> x.look(1));
        typed("one with zeros behind it", true, x, 0x4100000000000000L);
        check.answers("the last", 'A', () -> x.text(119));
        typed("nothing", true, x, 0L);
        typed("one more", false, x, 0x0000000041000000L);
        check.answers("characters", 120, () -> x.look(1));
        x.wipe();
        typed("one", true, x, 0x41L);
        has(x, "A");
    }

    private static void wipe() {
        check.sentence("The text becomes empty.", () -> {
            for (int count : new int[] {0, 1, 8, 119, 120}) {
                NameWriter x = filledTo(count);
                x.wipe();
                has(x, "");
                check.answers("the last", NONE, () -> x.text(Math.max(0, count - 1)));
                x.wipe();
                has(x, "");
                check.refuses("read", BAD, x::read);
                typed("from the start again", true, x, Check.part("xy"));
                has(x, "xy");
            }
            NameWriter x = Zoo.make();
            Check.read(x, "_Z1aPi1a");
            x.wipe();
            has(x, "");
            check.answers("nodes stay", 12, () -> x.look(0));
            check.same("the table stays", Check.tableOf(x), "4 1");
        });
    }

    private static void text() {
        check.sentence("Character i of the text; NONE if there is none.", () -> {
            NameWriter empty = new NameWriter();
            NameWriter one = filledTo(1);
            NameWriter full = filledTo(120);
            for (int i : new int[] {-1, -120, 1, 2, 119, 120, 121, 1 << 16, LEAST, MOST}) {
                check.answers("empty, " + i, NONE, () -> empty.text(i));
                check.answers("one, " + i, NONE, () -> one.text(i));
            }
            for (int i : new int[] {-1, 120, 121, 240, LEAST, MOST}) {
                check.answers("full, " + i, NONE, () -> full.text(i));
            }
            check.answers("empty, 0", NONE, () -> empty.text(0));
            check.answers("one, 0", 'A', () -> one.text(0));
            check.answers("full, 0", 'a', () -> full.text(0));
            check.answers("full, 118", 'g', () -> full.text(118));
            check.answers("full, 119", 'h', () -> full.text(119));
        });
        check.sentence("NONE if there is none.", () -> {
            NameWriter x = Zoo.make();
            Check.load(x, "abcdefghij");
            x.write(10);
            check.answers("behind what is written", NONE, () -> x.text(5));
            Check.load(x, "abc");
            check.answers("behind what is typed", NONE, () -> x.text(3));
            check.answers("the last typed", 'c', () -> x.text(2));
        });
    }

    private static void table() {
        check.sentence("The node under a number in the TABLE .. NONE if there is none.", () -> {
            NameWriter x = Zoo.make();
            for (int i : new int[] {-1, 0, 1, LEAST, MOST}) {
                check.answers("of a new object, " + i, NONE, () -> x.table(i));
            }
            Check.read(x, "_Z1aRiPi1a");
            check.same("the table", x.table(0) + " " + x.table(1) + " " + x.table(2), "5 4 1");
            for (int i : new int[] {-1, -2, 3, 4, 59, 60, 119, 120, 121, LEAST, MOST}) {
                check.answers("table " + i, NONE, () -> x.table(i));
            }
            check.answers("nodes in it", 3, () -> x.look(2));
        });
        check.sentence("of the latest write() or read()", () -> {
            NameWriter x = Zoo.make();
            int two = x.entity(1, NONE, 4, 5, NONE);
            x.write(two);
            check.same("write", Check.tableOf(x), "4 5");
            Check.read(x, "_Z1aRi");
            check.same("read", Check.tableOf(x), "5");
            x.write(two);
            check.same("write", Check.tableOf(x), "4 5");
            x.write(10);
            check.same("an empty one", Check.tableOf(x), "");
            check.answers("nodes in it", 0, () -> x.look(2));
            Check.read(x, "_Z1aPiPi");
            check.same("read, with doubles", Check.tableOf(x), "4 4");
            Check.read(x, "_Z1ai");
            check.same("an empty one", Check.tableOf(x), "");
            x.write(two);
            x.wipe();
            x.type(Check.part("_Z1a"));
            x.name('q');
            check.same("other calls", Check.tableOf(x), "4 5");
        });
        check.sentence("that did not throw", TextEdgeTest::tableBehindRefusals);
    }

    private static void tableBehindRefusals() {
        NameWriter x = Zoo.make();
        int two = x.entity(1, NONE, 4, 5, NONE);
        x.write(two);
        check.refuses("write of no ENTITY", BAD, () -> x.write(9));
        check.same("the table", Check.tableOf(x), "4 5");
        Check.load(x, "_Z1aRiRiRi!");
        check.refuses("read of a wrong text", BAD, x::read);
        check.same("the table", Check.tableOf(x), "4 5");
        int deep = 0;
        for (int n = 0; n < 6; n++) {
            int number = -999999 + n;
            deep = x.fill(1, x.literal(0, number), x.literal(0, -number), n == 0 ? NONE : deep);
        }
        int wide = x.entity(1, NONE, deep, NONE, NONE);
        check.refuses("write of too many characters", Check.LONG, () -> x.write(wide));
        check.same("the table", Check.tableOf(x), "4 5");
        Check.crowd(x, 60);
        Check.load(x, "_Z1aRiRiRi");
        check.refuses("read of too many nodes", Check.FULL, x::read);
        check.same("the table", Check.tableOf(x), "4 5");
        Check.load(x, "_Z1aPiRi");
        check.answers("read of what is there", two, x::read);
        check.same("the table", Check.tableOf(x), "4 5");
    }

    private static void look() {
        check.sentence("which 0: nodes, 1: characters in the text, 2: nodes in the TABLE.", () -> {
            NameWriter x = new NameWriter();
            check.same("none", x.look(0) + " " + x.look(1) + " " + x.look(2), "0 0 0");
            Check.read(x, "_ZN1a1bEiPi");
            check.same("some", x.look(0) + " " + x.look(1) + " " + x.look(2), "5 11 2");
            Check.crowd(x, 60);
            Check.load(x, "x".repeat(120));
            check.same("all that there can be", x.look(0) + " " + x.look(1) + " " + x.look(2), "60 120 2");
        });
        check.sentence("NONE for any other which.", () -> {
            NameWriter x = Zoo.make();
            x.write(10);
            for (int which : new int[] {-1, -2, 3, 4, 256, 1 << 31 | 1, LEAST, MOST}) {
                check.answers("look " + which, NONE, () -> x.look(which));
            }
        });
    }
}
