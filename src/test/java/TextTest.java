/** Promises 13, 14, 15 and 18: type, wipe, text and look. */
public final class TextTest {
    private static final int NONE = Check.NONE;
    private static final Check check = new Check();

    public static void main(String[] args) {
        bytes();
        refusedBytes();
        length();
        wipe();
        look();
        check.end();
    }

    private static void typed(String what, boolean due, NameWriter x, long part) {
        check.same(what, x.type(part), due);
    }

    private static void bytes() {
        NameWriter x = new NameWriter();
        typed("eight bytes", true, x, Check.part("abcdefgh"));
        check.same("text", Check.textOf(x), "abcdefgh");
        typed("zeros are passed over", true, x, 0x0041004200430044L);
        check.same("text", Check.textOf(x), "abcdefghABCD");
        typed("a last zero", true, x, 0x2100000000007e00L);
        check.same("text", Check.textOf(x), "abcdefghABCD!~");
        typed("nothing", true, x, 0L);
        check.answers("characters", 14, () -> x.look(1));
        for (int i : new int[] {-1, 14, 120, Integer.MAX_VALUE, Integer.MIN_VALUE}) {
            check.answers("text " + i, NONE, () -> x.text(i));
        }
        check.answers("first", 'a', () -> x.text(0));
        check.answers("last", '~', () -> x.text(13));
    }

    private static void refusedBytes() {
        NameWriter x = new NameWriter();
        typed("start", true, x, Check.part("_Z"));
        for (int letter = 1; letter < 256; letter++) {
            boolean right = letter >= 33 && letter <= 126;
            for (int shift = 0; shift < 64; shift += 56) {
                NameWriter y = new NameWriter();
                typed("byte " + letter, right, y, (long) letter << shift);
                check.answers("characters", right ? 1 : 0, () -> y.look(1));
            }
        }
        typed("one wrong byte of eight", false, x, Check.part("abcdefg "));
        typed("one wrong byte of eight", false, x, Check.part("abcd\u007fefg"));
        typed("all wrong", false, x, -1L);
        check.same("text", Check.textOf(x), "_Z");
    }

    private static void length() {
        NameWriter x = new NameWriter();
        for (int n = 0; n < 14; n++) {
            typed("part", true, x, Check.part("abcdefgh"));
        }
        typed("to 119", true, x, Check.part("ABCDEFG"));
        typed("121 would be too many", false, x, Check.part("xy"));
        check.answers("characters", 119, () -> x.look(1));
        check.answers("119", NONE, () -> x.text(119));
        typed("the last one", true, x, Check.part("x"));
        check.answers("119", 'x', () -> x.text(119));
        typed("no more", false, x, Check.part("y"));
        typed("nothing is no more", true, x, 0L);
        typed("a wrong byte", false, x, 1L);
        check.answers("characters", 120, () -> x.look(1));
        check.answers("120", NONE, () -> x.text(120));
    }

    private static void wipe() {
        NameWriter x = new NameWriter();
        x.wipe();
        check.answers("characters", 0, () -> x.look(1));
        int entity = Check.read(x, "_Z1f1a");
        x.wipe();
        check.answers("characters", 0, () -> x.look(1));
        check.answers("text", NONE, () -> x.text(0));
        check.answers("nodes stay", 3, () -> x.look(0));
        check.answers("the table stays", 1, () -> x.look(2));
        check.answers("the table stays", 1, () -> x.table(0));
        check.refuses("an empty text", Check.BAD, x::read);
        check.answers("written anew", 6, () -> x.write(entity));
        typed("behind what is written", true, x, Check.part("i"));
        check.same("text", Check.textOf(x), "_Z1f1ai");
    }

    private static void look() {
        NameWriter x = new NameWriter();
        Check.read(x, "_ZN1a1bEiPi");
        check.answers("nodes", 5, () -> x.look(0));
        check.answers("characters", 11, () -> x.look(1));
        check.answers("table", 2, () -> x.look(2));
        for (int which : new int[] {-1, 3, 4, Integer.MAX_VALUE, Integer.MIN_VALUE}) {
            check.answers("look " + which, NONE, () -> x.look(which));
        }
    }
}
