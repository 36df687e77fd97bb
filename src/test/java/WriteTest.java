/** Promises 12 and 17: write, and the table that it leaves. */
public final class WriteTest {
    private static final int NONE = Check.NONE;
    private static final Check check = new Check();

    public static void main(String[] args) {
        plainOnes();
        scopes();
        told();
        numbersToBase36();
        literals();
        tooLong();
        noEntity();
        check.end();
    }

    private static void writes(NameWriter x, int entity, String due) {
        check.answers("write " + due, due.length(), () -> x.write(entity));
        check.same("text", Check.textOf(x), due);
    }

    private static void plainOnes() {
        NameWriter x = new NameWriter();
        int f = x.name(Check.id("f"));
        int abc = x.name(Check.id("abc"));
        writes(x, x.entity(f, NONE, NONE, NONE, NONE), "_Z1fv");
        check.answers("table", 0, () -> x.look(2));
        int[] k = new int[8];
        for (int i = 0; i < 8; i++) {
            k[i] = x.builtin(i);
        }
        writes(x, x.entity(abc, NONE, k[1], k[2], k[3]), "_Z3abcbcs");
        writes(x, x.entity(f, NONE, k[4], k[5], k[6]), "_Z1fijl");
        writes(x, x.entity(f, NONE, k[7], x.wrap(4, k[0]), NONE), "_Z1fxPv");
        writes(x, x.entity(f, NONE, x.wrap(5, x.wrap(6, k[2])), NONE, NONE), "_Z1fRKc");
        writes(x, x.entity(f, NONE, x.array(x.array(k[4], 10), 999), NONE, NONE), "_Z1fA999_A10_i");
        int none = x.function(k[0], NONE, NONE, NONE);
        writes(x, x.entity(f, NONE, none, x.function(k[4], none, k[4], k[5]), NONE), "_Z1fFvvEFiS_ijE");
    }

    private static void scopes() {
        NameWriter x = new NameWriter();
        int i = x.builtin(4);
        int v = x.builtin(0);
        int a = x.name(Check.id("a"));
        int ab = x.member(a, Check.id("bc"));
        int abc = x.member(ab, Check.id("d"));
        int filled = x.fill(a, i, NONE, NONE);
        int filledMember = x.fill(ab, i, v, NONE);
        int inside = x.member(filled, Check.id("m"));
        writes(x, x.entity(ab, NONE, NONE, NONE, NONE), "_ZN1a2bcEv");
        check.same("table", Check.tableOf(x), "2");
        writes(x, x.entity(abc, NONE, ab, a, abc), "_ZN1a2bc1dES0_S_NS0_1dE");
        check.same("table", Check.tableOf(x), "2 3 4");
        writes(x, x.entity(filled, v, filled, NONE, NONE), "_Z1aIiEvS_IiE");
        check.same("table", Check.tableOf(x), "2 5");
        writes(x, x.entity(filledMember, filledMember, filledMember, ab, NONE), "_ZN1a2bcIivEENS0_IivEES1_S0_");
        writes(x, x.entity(inside, NONE, filled, inside, inside), "_ZN1aIiE1mES0_NS0_1mES1_");
        int deep = x.member(filledMember, Check.id("e"));
        writes(x, x.entity(a, NONE, deep, filledMember, deep), "_Z1aN1a2bcIivE1eES1_S2_");
        check.same("table", Check.tableOf(x), a + " " + ab + " " + filledMember + " " + deep);
    }

    private static void told() {
        NameWriter x = new NameWriter();
        int i = x.builtin(4);
        int f = x.name(Check.id("f"));
        int pointer = x.wrap(4, i);
        int toConst = x.wrap(4, x.wrap(6, i));
        writes(x, x.entity(f, NONE, pointer, pointer, toConst), "_Z1fPiS_PKi");
        writes(x, x.entity(f, NONE, toConst, x.wrap(6, i), pointer), "_Z1fPKiS_Pi");
        writes(x, x.entity(f, NONE, f, f, i), "_Z1f1fS_i");
        check.same("table", Check.tableOf(x), Integer.toString(f));
        int g = x.name(Check.id("g"));
        int filled = x.fill(g, f, g, pointer);
        writes(x, x.entity(filled, g, f, x.fill(g, g, NONE, NONE), filled), "_Z1gI1fS_PiES_S0_S_IS_ES_IS0_S_S1_E");
    }

    /** More than 38 in the table, so that the last number with one digit and the first with two are used. */
    private static void numbersToBase36() {
        NameWriter x = new NameWriter();
        int i = x.builtin(4);
        int s = x.name(Check.id("s"));
        int first = chain(x, 4, i, 13);
        int second = chain(x, 5, i, 13);
        int third = chain(x, 4, x.array(i, 1), 12);
        int filled = x.fill(s, first, second, third);
        int number38 = x.of(third, 2);
        int number37 = x.of(number38, 2);
        int number36 = x.of(number37, 2);
        int number35 = x.of(number36, 2);
        String head = "_Z1sI" + "P".repeat(13) + "i" + "R".repeat(13) + "i" + "P".repeat(12) + "A1_iE";
        writes(x, x.entity(filled, number36, number37, number35, number38), head + "SZ_S10_SY_S11_");
        check.answers("table", 40, () -> x.look(2));
        check.answers("number 36", number36, () -> x.table(36));
        check.answers("number 39", third, () -> x.table(39));
        check.answers("no number 40", NONE, () -> x.table(40));
        check.answers("no number -1", NONE, () -> x.table(-1));
        writes(x, x.entity(filled, second, x.of(second, 2), first, s), head + "SP_SO_SC_S_");
        writes(x, x.entity(filled, i, x.of(first, 2), third, NONE), head + "iSB_S12_");
    }

    private static int chain(NameWriter x, int kind, int type, int count) {
        int node = type;
        for (int n = 0; n < count; n++) {
            node = x.wrap(kind, node);
        }
        return node;
    }

    private static void literals() {
        NameWriter x = new NameWriter();
        int i = x.builtin(4);
        int b = x.builtin(1);
        int a = x.name(Check.id("a"));
        int zero = x.literal(i, 0);
        int filled = x.fill(a, zero, x.literal(b, -1), x.literal(i, -999999));
        writes(x, x.entity(a, NONE, filled, NONE, NONE), "_Z1a1aILi0ELbn1ELin999999EE");
        int other = x.fill(a, x.literal(i, 10), x.literal(b, 100000), zero);
        writes(x, x.entity(a, NONE, other, filled, other), "_Z1a1aILi10ELb100000ELi0EES_ILi0ELbn1ELin999999EES0_");
    }

    /** An entity of 120 characters is written, one of 121 is not. */
    private static void tooLong() {
        NameWriter x = new NameWriter();
        int i = x.builtin(4);
        int f = x.name(Check.id("f"));
        int[] filled = new int[3];
        for (int n = 0; n < 3; n++) {
            int number = -999999 + 3 * n;
            filled[n] = x.fill(f, x.literal(i, number), x.literal(i, number + 1), x.literal(i, number + 2));
        }
        int last = chain(x, 4, filled[2], 12);
        int fits = x.entity(f, NONE, filled[0], chain(x, 4, filled[1], 2), last);
        String due = "_Z1f1fILin999999ELin999998ELin999997EEPPS_ILin999996ELin999995ELin999994EE" + "P".repeat(12)
            + "S_ILin999993ELin999992ELin999991EE";
        check.answers("characters", 120, () -> due.length());
        writes(x, fits, due);
        String table = Check.tableOf(x);
        int oneMore = x.entity(f, NONE, x.wrap(5, filled[0]), chain(x, 4, filled[1], 2), last);
        check.refuses("121", Check.LONG, () -> x.write(oneMore));
        int function = x.function(filled[0], filled[1], x.of(last, 2), i);
        int manyMore = x.entity(f, NONE, chain(x, 5, filled[2], 9), function, function);
        check.refuses("many more", Check.LONG, () -> x.write(manyMore));
        check.same("text stays", Check.textOf(x), due);
        check.same("table stays", Check.tableOf(x), table);
        check.answers("read again", fits, x::read);
    }

    private static void noEntity() {
        NameWriter x = new NameWriter();
        int entity = Check.read(x, "_Z1f1aIiLi5EEPRKA3_FivE");
        String before = Check.textOf(x);
        for (int node = -2; node < 14; node++) {
            int wrong = node;
            if (node != entity) {
                check.refuses("write " + node, Check.BAD, () -> x.write(wrong));
            }
        }
        check.refuses("write", Check.BAD, () -> x.write(Integer.MAX_VALUE));
        check.refuses("write", Check.BAD, () -> x.write(Integer.MIN_VALUE));
        check.same("text stays", Check.textOf(x), before);
        check.answers("table stays", 7, () -> x.look(2));
    }
}
