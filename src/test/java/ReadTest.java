/** Promises 16 and 17: read, and the table that it leaves. */
public final class ReadTest {
    private static final int NONE = Check.NONE;
    private static final Check check = new Check();

    public static void main(String[] args) {
        wrongTexts();
        rightTexts();
        orderOfNodes();
        whatIsThere();
        tableWithDoubles();
        otherWays();
        depth();
        manyNodes();
        refusalsChangeNothing();
        buildingBehindRefusals();
        check.end();
    }

    private static void wrongTexts() {
        String[] wrong = {
            "", "_", "_Z", "Z1fi", "_z1fi", "1fi", "_Zi", "_ZPi", "_ZS_", "_ZS_i", "__Z1fi", " _Z1fi",
            "_Z1f", "_Z1fi_", "_Z1fiE", "_Z1fvv", "_Z1fvi", "_Z1fiv", "_Z1fiiv", "_Z1fiiii", "_Z1fE", "_Z1f!", "_Z1fd",
            "_Z1f1", "_Z1f0", "_Z1f0a", "_Z1f01a", "_Z1f2a", "_Z1f4abcd", "_Z1f1A", "_Z1f2aA", "_Z1f3ab", "_Z1f3ab1",
            "_Z1f1{", "_Z1f1`", "_Z0i", "_Z01fi", "_Z4abcdi", "_Z10abcdefghiji", "_Z11ai", "_Z-1fi", "_Z1-i",
            "_Z1fP", "_Z1fR", "_Z1fK", "_Z1fKKi", "_Z1fKiKS_", "_Z1fPE", "_Z1fPLi5E", "_Z1fLi5E", "_Z1fI", "_Z1fIE",
            "_Z1fA", "_Z1fA_i", "_Z1fA0_i", "_Z1fA00_i", "_Z1fA01_i", "_Z1fA1000_i", "_Z1fA1i", "_Z1fA1_", "_Z1fA1_E",
            "_Z1fAn1_i", "_Z1fA-1_i", "_Z1fAA_i", "_Z1fA9999999999_i", "_Z1fA4294967297_i",
            "_Z1fF", "_Z1fFE", "_Z1fFi", "_Z1fFiE", "_Z1fFii", "_Z1fFivv", "_Z1fFivvE", "_Z1fFiiiiiE", "_Z1fFivi",
            "_Z1fFiviE", "_Z1fFiivE", "_Z1fFLi5EvE", "_Z1fFiLi5EE",
            "_Z1fS_", "_Z1f1aS0_", "_Z1f1aS", "_Z1f1aS0", "_Z1f1aPS_S00_", "_Z1f1aPS_S01_", "_Z1f1aPS_S1_",
            "_Z1f1aS__", "_Z1f1aSn_", "_Z1f1aSa_", "_Z1f1aS-1_", "_Z1f1aSZZ_", "_Z1f1aSZZZZZZZZZZZZZZZZZZZZ_",
            "_Z1f1aS1Z141Z4_", "_Z1f1aS000_", "_Z1f1aS1Z141Z3_", "_Z1f1aS3W5E11264SG0_",
            "_Z1fPS_", "_Z1f1aIS0_E", "_Z1fPiS_IiE", "_Z1fN1a1bES0_IiE", "_Z1f1aIiES0_IiE",
            "_Z1f1aIiEIiE", "_Z1f1aI", "_Z1f1aIE", "_Z1f1aIi", "_Z1f1aIiiiiE", "_Z1f1aIiiiLi5EE", "_Z1fiI", "_Z1fiIiE",
            "_Z1f1aILE", "_Z1f1aILiEE", "_Z1f1aILi5E", "_Z1f1aILi5EEE", "_Z1f1aILv5EE", "_Z1f1aILd5EE", "_Z1f1aIL5EE",
            "_Z1f1aILin0EE", "_Z1f1aILi00EE", "_Z1f1aILi01EE", "_Z1f1aILin01EE", "_Z1f1aILinEE", "_Z1f1aILinn1EE",
            "_Z1f1aILi1000000EE", "_Z1f1aILin1000000EE", "_Z1f1aILi4294967297EE", "_Z1f1aILi5nEE", "_Z1f1aILPi5EE",
            "_Z1f1aILi-5EE", "_Z1f1aILiAEE", "_Z1f1aILL5EEE",
            "_Z1fN", "_Z1fNE", "_Z1fN1a", "_Z1fN1aE", "_Z1fN1a1b", "_Z1fNi1bE", "_Z1fNPi1bE", "_Z1fN1a1bi", "_Z1fN1aiE",
            "_Z1fN1aIiEE", "_Z1fN1a1bIiEIiEE", "_Z1fN1aIiEIiE1bE", "_Z1fNN1a1bE1cE", "_Z1fN1a1bES0_NS0_E",
            "_Z1f1aNS_E", "_Z1f1aNS_IiEE", "_Z1fPiNS_1bE", "_Z1f1aN1bS_E", "_Z1f1aNS_S_E", "_Z1fNS_1bE", "_Z1fN0E",
            "_Z1fN1a0E", "_Z1fN1aI1bEE", "_Z1f1aIiENS0_IiEE", "_Z1f1aIiENS0_IiE1bE",
            "_ZN", "_ZNE", "_ZN1aE", "_ZN1aEi", "_ZN1a1b", "_ZN1a1bE", "_ZN1a1bEi_", "_ZN1aIiEEii", "_ZNS_1bEi",
            "_ZN1a1bIiEE", "_ZN1a1bIiEEi", "_ZN1aIiE1bIiEEi", "_Z1aIiE", "_Z1aIiEi", "_Z1aIiEiv_", "_Z1aIiEivv",
            "_Z1aIiEIiEii", "_Z1aIiEE", "_Z1aIEii", "_ZN1a1bEIiEii",
        };
        for (String text : wrong) {
            NameWriter x = new NameWriter();
            Check.load(x, text);
            check.refuses("read " + text, Check.BAD, x::read);
            check.answers("nodes after " + text, 0, () -> x.look(0));
            check.answers("table after " + text, 0, () -> x.look(2));
        }
    }

    /** Texts that are written again just as they were read. */
    private static void rightTexts() {
        String[] right = {
            "_Z1fv", "_Z1fi", "_Z2ffbc", "_Z3abcsij", "_Z1zlxc", "_Z1fPv", "_Z1fRKv", "_Z1fKPKi", "_Z1fA1_i",
            "_Z1fA999_v", "_Z1fA100_A20_c", "_Z1fFvvE", "_Z1fFviE", "_Z1fFiijlE", "_Z1fFFvvES_E",
            "_Z1f1f", "_Z1f1aS_S_", "_Z1f3abcPS_S0_", "_Z1fN1a1bE", "_Z1fN1a1bES_S0_", "_Z1fN1a1b1c1dES1_S2_",
            "_Z1f1aIvE", "_Z1f1aIiES_S0_", "_Z1f1aIiES_IcES1_", "_Z1f1aILi0ELb1ELcn999999EE", "_Z1f1aILx999999EE",
            "_Z1fN1a1bIiEE", "_Z1fN1aIiE1bES0_S1_", "_Z1fN1a1bIiE1cIvEENS0_IvEES1_", "_Z1f1aNS_1bENS0_1cE",
            "_Z1f1a1bNS_1bE", "_Z1f1aIS_E", "_Z1aIS_ES_S_", "_Z1aIiEvv", "_Z1aIiEFvvES0_i",
            "_ZN1a1bEv", "_ZN1a1bES_NS_1bE", "_ZN1a1bIiEES_S0_NS0_IiEE", "_ZN1aIiE1bEv",
            "_ZN1aIiE1bEiS_S0_", "_ZN1a1bI1cEES1_NS0_IS1_EES2_",
        };
        for (String text : right) {
            NameWriter x = new NameWriter();
            int entity = Check.read(x, text);
            String table = Check.tableOf(x);
            check.same("the text stays", Check.textOf(x), text);
            check.answers("the last node", x.look(0) - 1, () -> entity);
            check.answers("its kind", 10, () -> x.of(entity, 0));
            check.same("written again", Check.written(x, entity), text);
            check.same("the same table", Check.tableOf(x), table);
        }
    }

    private static void hasCells(NameWriter x, String... due) {
        check.answers("nodes", due.length, () -> x.look(0));
        for (int node = 0; node < due.length; node++) {
            check.same("cells of " + node, Check.cellsOf(x, node), due[node]);
        }
    }

    private static void orderOfNodes() {
        NameWriter x = new NameWriter();
        check.answers("read", 8, () -> Check.read(x, "_ZN1a1bILin7EiEEvS_PKS0_"));
        hasCells(x, "1 97 -1 -1 -1 -1 -1 1", "2 98 0 -1 -1 -1 -1 2", "0 4 -1 -1 -1 -1 -1 1", "9 -7 2 -1 -1 -1 -1 2",
            "3 0 1 -1 3 2 -1 3", "0 0 -1 -1 -1 -1 -1 1", "6 0 1 -1 -1 -1 -1 3", "4 0 6 -1 -1 -1 -1 4",
            "10 0 4 5 0 7 -1 5");
    }

    private static void whatIsThere() {
        NameWriter x = new NameWriter();
        int i = x.builtin(4);
        int pointer = x.wrap(4, i);
        check.answers("read", 4, () -> Check.read(x, "_Z1fPiPPi"));
        check.same("cells", Check.cellsOf(x, 4), "10 0 2 -1 1 3 -1 4");
        check.same("table", Check.tableOf(x), "1 1 3");
        check.answers("read again", 4, x::read);
        check.answers("as it is written", 4, () -> Check.read(x, "_Z1fPiPS_"));
        check.same("table", Check.tableOf(x), "1 3");
        check.answers("nodes", 5, () -> x.look(0));
        check.answers("pointer", pointer, () -> x.of(4, 4));
        check.answers("no v is made", 5, () -> Check.read(x, "_Z1fv"));
        check.answers("v is made for what it gives", 8, () -> Check.read(x, "_Z1fFvvE"));
        check.same("cells", Check.cellsOf(x, 6), "0 0 -1 -1 -1 -1 -1 1");
    }

    /** What is not told comes into the table each time, so numbers differ from those of a writing. */
    private static void tableWithDoubles() {
        NameWriter x = new NameWriter();
        check.answers("read", 3, () -> Check.read(x, "_Z1f1a1aPS0_"));
        check.same("table", Check.tableOf(x), "1 1 2");
        check.same("written", Check.written(x, x.look(0) - 1), "_Z1f1aS_PS_");
        check.same("table", Check.tableOf(x), "1 2");
    }

    private static void otherWays() {
        String[][] pairs = {
            {"_Z1fPiPiS0_", "_Z1fPiS_S_"},
            {"_ZN1a1bEN1a1bES1_", "_ZN1a1bENS_1bES0_"},
            {"_ZN1a1bE1aS0_", "_ZN1a1bES_S_"},
            {"_Z1fN1a1bEN1a1cE", "_Z1fN1a1bENS_1cE"},
            {"_Z1f1aIiE1aIiES2_", "_Z1f1aIiES0_S0_"},
            {"_Z1f1aIiES_IiES1_", "_Z1f1aIiES0_S0_"},
            {"_Z1aIiE1aIiES_S1_", "_Z1aIiES_IiES_S0_"},
            {"_Z1f1a1aIS_ES0_IS0_E", "_Z1f1aS_IS_ES0_"},
            {"_ZN1a1bIiEEN1a1bIiEEv", "_ZN1a1bIiEENS0_IiEEv"},
            {"_Z1fN1aIiE1bEN1aIiE1cE", "_Z1fN1aIiE1bENS0_1cE"},
            {"_Z1fN1aIiE1bENS_IiE1cE", "_Z1fN1aIiE1bENS0_1cE"},
            {"_Z1f1aNS_1bIiE1cEN1a1bE", "_Z1f1aNS_1bIiE1cES0_"},
        };
        for (String[] pair : pairs) {
            NameWriter x = new NameWriter();
            int entity = Check.read(x, pair[0]);
            check.same("another way of " + pair[0], Check.written(x, entity), pair[1]);
            check.answers("the same entity", entity, x::read);
        }
    }

    private static void depth() {
        String[] deepest = {
            "_Z1f" + "P".repeat(14) + "i", "_Z1f" + "A1_".repeat(14) + "i", "_Z1f" + "F".repeat(14) + "i" + "vE".repeat(14),
            "_Z1f" + "1aI".repeat(14) + "i" + "E".repeat(14), "_ZN" + "1a".repeat(15) + "Ev",
            "_ZN" + "1aIvE".repeat(7) + "1bEi", "_Z1f" + "P".repeat(12) + "1aILi5EE",
            "_Z1f" + "P".repeat(13) + "iPSB_", "_Z1aI" + "P".repeat(13) + "iEvi", "_Z1aIiE" + "P".repeat(14) + "iv",
            "_Z1fii" + "P".repeat(14) + "i", "_Z1f1aIii" + "P".repeat(13) + "iE", "_Z1fFiii" + "P".repeat(13) + "iE",
            "_Z1fFii" + "P".repeat(13) + "iE", "_Z1fFi" + "P".repeat(13) + "iE", "_Z1fN1a1bI" + "P".repeat(13) + "iEE",
            "_Z1fN1aI" + "P".repeat(12) + "iE1bE", "_Z1fN1aIi" + "P".repeat(11) + "iE1b1cE",
            "_Z1f" + "P".repeat(12) + "N1a1b1cE", "_Z1f" + "N1a1bI".repeat(13) + "N1c1dE" + "EE".repeat(13),
            "_ZN" + "1a".repeat(14) + "IiEEii", "_Z1fN" + "1a".repeat(14) + "IiEE", "_Z1fN" + "1a".repeat(13) + "IiE1bE",
        };
        for (String text : deepest) {
            NameWriter x = new NameWriter();
            int entity = Check.read(x, text);
            check.answers("the depth of " + text, 16, () -> x.of(entity, 7));
            x.wipe();
            check.same("written again: " + text, x.write(entity) <= text.length(), true);
            check.answers("read again: " + text, entity, x::read);
        }
        String[] tooDeep = {
            "_Z1f" + "P".repeat(15) + "i", "_Z1f" + "A1_".repeat(15) + "i", "_Z1f" + "F".repeat(15) + "i" + "vE".repeat(15),
            "_Z1f" + "1aI".repeat(15) + "i" + "E".repeat(15), "_ZN" + "1a".repeat(16) + "Ev",
            "_ZN" + "1aIvE".repeat(8) + "1bEi", "_Z1f" + "P".repeat(13) + "1aILi5EE",
            "_Z1f" + "P".repeat(13) + "iPPSB_", "_Z1aI" + "P".repeat(14) + "iEvi", "_Z1aIiE" + "P".repeat(15) + "iv",
            "_Z1fii" + "P".repeat(15) + "i", "_Z1f1aIii" + "P".repeat(14) + "iE", "_Z1fFiii" + "P".repeat(14) + "iE",
            "_Z1f" + "P".repeat(16) + "i", "_Z1f" + "P".repeat(115) + "i", "_Z1f" + "1aI".repeat(38),
            "_ZN" + "1a".repeat(58) + "E", "_Z1f" + "F".repeat(116), "_ZN" + "1a1bI".repeat(23),
            "_Z1f" + "N1a1bI".repeat(19), "_Z1a" + "I1a".repeat(38),
        };
        for (String text : tooDeep) {
            NameWriter x = new NameWriter();
            check.same("typed " + text, Check.load(x, text), true);
            check.refuses("read " + text, Check.BAD, x::read);
        }
    }

    private static void manyNodes() {
        NameWriter x = new NameWriter();
        x.name(Check.id("f"));
        Check.crowd(x, 57);
        Check.load(x, "_Z1fPRi");
        check.refuses("61 nodes", Check.FULL, x::read);
        check.answers("nodes", 57, () -> x.look(0));
        check.answers("of", NONE, () -> x.of(57, 0));
        check.answers("table", 0, () -> x.look(2));
        Check.load(x, "_Z1fPRi!");
        check.refuses("wrong, and too many", Check.BAD, x::read);
        Check.load(x, "_Z1fPi");
        check.answers("60 nodes", 59, x::read);
        check.answers("nodes", 60, () -> x.look(0));
        check.answers("again", 59, x::read);
        check.answers("in another way", 59, () -> Check.read(x, "_Z1fPi"));
        Check.load(x, "_Z1fi");
        check.refuses("an entity more", Check.FULL, x::read);
        Check.load(x, "_Z1fKKi");
        check.refuses("wrong", Check.BAD, x::read);
        check.same("table", Check.tableOf(x), "58");

        NameWriter full = new NameWriter();
        Check.crowd(full, 60);
        Check.load(full, "_Z1fF1bFiijbEFijibEFibjiEEFA2_iA3_iA4_iA5_iEFN1a1b1c1d1eEPPiRRlKxE");
        check.refuses("many more", Check.FULL, full::read);
        check.answers("nodes", 60, () -> full.look(0));
    }

    private static void refusalsChangeNothing() {
        NameWriter x = new NameWriter();
        Check.read(x, "_Z1f1aPS_");
        String nodes = Check.cellsOf(x, 0) + Check.cellsOf(x, 3);
        Check.load(x, "_Z1fN1a1bIiEERKcFv1cE_");
        check.refuses("wrong at the end", Check.BAD, x::read);
        check.answers("nodes", 4, () -> x.look(0));
        check.answers("of", NONE, () -> x.of(4, 0));
        check.answers("table", 2, () -> x.look(2));
        check.same("table", Check.tableOf(x), "1 2");
        check.same("the text stays", Check.textOf(x), "_Z1fN1a1bIiEERKcFv1cE_");
        check.same("cells", Check.cellsOf(x, 0) + Check.cellsOf(x, 3), nodes);
        check.refuses("a node that was never made", Check.BAD, () -> x.wrap(4, 4));
        Check.load(x, "_Z1fN1a1bIiEERKcFv1cE_");
        check.refuses("again", Check.BAD, x::read);
        check.refuses("a node that was never made", Check.BAD, () -> x.write(4));
        check.answers("the next number", 4, () -> x.builtin(2));
    }

    /** A call on an object in which a reading was just refused. */
    private interface NextCall {
        int on(NameWriter x);
    }

    private static NameWriter justRefused() {
        NameWriter x = new NameWriter();
        x.builtin(4);
        Check.read(x, "_Z1a1b");
        Check.load(x, "_Z1cPKbi_");
        check.refuses("wrong at the end", Check.BAD, x::read);
        return x;
    }

    private static void buildingBehindRefusals() {
        NextCall[] makers = {
            x -> x.builtin(7), x -> x.name(Check.id("q")), x -> x.member(1, Check.id("q")), x -> x.fill(1, 0, 0, 0),
            x -> x.wrap(5, 1), x -> x.array(1, 77), x -> x.function(1, NONE, NONE, NONE), x -> x.literal(0, 77),
            x -> x.entity(1, NONE, 1, 1, 1), x -> Check.read(x, "_Z1a1b1b"),
        };
        for (NextCall maker : makers) {
            NameWriter x = justRefused();
            check.answers("the next number", 4, () -> maker.on(x));
            check.answers("nodes", 5, () -> x.look(0));
        }
        check.refuses("a node that was never made", Check.BAD, () -> justRefused().wrap(4, 5));
        check.refuses("a node that was never made", Check.BAD, () -> justRefused().write(4));
        check.answers("a node that was never made", NONE, () -> justRefused().of(4, 0));
    }
}
