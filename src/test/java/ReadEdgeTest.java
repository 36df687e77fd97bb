/** Promise 16 and the terms of READING: each sentence that names a boundary has a test of its own. */
public final class ReadEdgeTest {
    private static final String BAD = Check.BAD;
    private static final String FULL = Check.FULL;
    private static final Check check = new Check();

    public static void main(String[] args) {
        nodes();
        table();
        types();
        nested();
        entities();
        wholeTexts();
        promise16();
        check.end();
    }

    /** The text is read in a new object: this entity, this table. */
    private static void reads(String text, String entity, String table) {
        NameWriter x = new NameWriter();
        Check.load(x, text);
        String answer = Check.outcome(x::read);
        check.same(text, answer.matches("\\d+"), true);
        if (answer.matches("\\d+")) {
            check.same(text, Tree.of(x, Integer.parseInt(answer)), entity);
            check.same("the table of " + text, Tree.table(x), table);
            check.answers("the entity is the last node", x.look(0) - 1, () -> Long.parseLong(answer));
        }
    }

    private static void refuses(String... texts) {
        for (String text : texts) {
            NameWriter x = new NameWriter();
            check.same("typed " + text, Check.load(x, text), true);
            check.refusesUnchanged(text, BAD, x, x::read);
        }
    }

    /** What is right with each of the signs that can be typed at the mark, and no other. */
    private static void takesSigns(String text, String right) {
        for (char sign = 33; sign <= 126; sign++) {
            NameWriter x = new NameWriter();
            String whole = text.replace('?', sign);
            Check.load(x, whole);
            check.same(whole, Check.outcome(x::read).matches("\\d+"), right.indexOf(sign) >= 0);
        }
    }

    private static void nodes() {
        check.sentence("0 BUILTIN: one of v b c s i j l x.", () -> takesSigns("_Z1fP?", "vbcsijlx"));
        check.sentence("1 NAME: an ID, one to three letters a .. z.", () -> {
            takesSigns("_Z1?v", "abcdefghijklmnopqrstuvwxyz");
            takesSigns("_Z2z?v", "abcdefghijklmnopqrstuvwxyz");
            takesSigns("_Z3?zzv", "abcdefghijklmnopqrstuvwxyz");
            takesSigns("_Z1f3z?z", "abcdefghijklmnopqrstuvwxyz");
            takesSigns("_Z?v", "");
            takesSigns("_Z?abcdefghv", "");
            reads("_Z1av", "a()", "");
            reads("_Z2azv", "az()", "");
            reads("_Z3azav", "aza()", "");
            refuses("_Z0v", "_Z4azazv", "_Z5azazav", "_Z9abcdefghiv", "_Z10abcdefghijv", "_Z1f0", "_Z1f4azaz", "_Zv", "_Z1",
                "_Z3az", "_Z2a");
        });
        check.sentence("2 MEMBER: a PREFIX and an ID.", () -> {
            takesSigns("_ZN1a1?Ev", "abcdefghijklmnopqrstuvwxyz");
            takesSigns("_ZN1a3zz?Ev", "abcdefghijklmnopqrstuvwxyz");
            refuses("_ZN1a0Ev", "_ZN1a4azazEv", "_ZN1a1Ev", "_ZN1a2bEv", "_ZNPi1bEv", "_ZNi1bEv");
        });
        check.sentence("3 FILLED: .. one to three ARGUMENTS, each a type or a LITERAL.", () -> {
            reads("_Z1f1aIvE", "f(a<v>)", "a a<v>");
            reads("_Z1f1aIvLi5EE", "f(a<v,5i>)", "a a<v,5i>");
            reads("_Z1f1aILi5EPiLi5EE", "f(a<5i,P(i),5i>)", "a P(i) a<5i,P(i),5i>");
            refuses("_Z1f1aIE", "_Z1f1aIiiiiE", "_Z1f1aIiiiLi5EE", "_Z1f1aILi5ELi5ELi5ELi5EE", "_Z1aIEvv", "_Z1aIiiiiEvv",
                "_ZN1aIE1bEv", "_ZN1a1bIiiiiEEvv");
        });
        check.sentence("7 ARRAY of a type, and a number 1 .. 999.", () -> {
            takesSigns("_Z1fA?_i", "123456789");
            takesSigns("_Z1fA9?_i", "0123456789");
            takesSigns("_Z1fA9?9_i", "0123456789");
            reads("_Z1fA1_i", "f(A1(i))", "A1(i)");
            reads("_Z1fA999_v", "f(A999(v))", "A999(v)");
            reads("_Z1fA10_A100_i", "f(A10(A100(i)))", "A100(i) A10(A100(i))");
            refuses("_Z1fA0_i", "_Z1fA1000_i", "_Z1fA9999_i", "_Z1fA_i", "_Z1fAn1_i", "_Z1fA-1_i", "_Z1fA4294967297_i",
                "_Z1fA18446744073709551617_i", "_Z1fA1i", "_Z1fA1_", "_Z1fA1_Li5E");
        });
        check.sentence("8 FUNCTION: a type that it gives, and none to three PARAMETERS.", () -> {
            reads("_Z1fFvvE", "f(F(v;))", "F(v;)");
            reads("_Z1fFiiE", "f(F(i;i))", "F(i;i)");
            reads("_Z1fFicsE", "f(F(i;c,s))", "F(i;c,s)");
            reads("_Z1fFicsjE", "f(F(i;c,s,j))", "F(i;c,s,j)");
            refuses("_Z1fFE", "_Z1fFiE", "_Z1fFvE", "_Z1fFicsjlE", "_Z1fFLi5EvE", "_Z1fFiLi5EE");
        });
        check.sentence("9 LITERAL: a BUILTIN other than v, and a number -999999 .. 999999.", () -> {
            takesSigns("_Z1f1aIL?5EE", "bcsijlx");
            takesSigns("_Z1f1aILi?EE", "0123456789");
            takesSigns("_Z1f1aILi9?EE", "0123456789");
            takesSigns("_Z1f1aILin?EE", "123456789");
            takesSigns("_Z1f1aILin9999?9EE", "0123456789");
            reads("_Z1f1aILi999999EE", "f(a<999999i>)", "a a<999999i>");
            reads("_Z1f1aILin999999EE", "f(a<-999999i>)", "a a<-999999i>");
            reads("_Z1f1aILi0EE", "f(a<0i>)", "a a<0i>");
            reads("_Z1f1aILxn1EE", "f(a<-1x>)", "a a<-1x>");
            refuses("_Z1f1aILi1000000EE", "_Z1f1aILin1000000EE", "_Z1f1aILi9999999EE", "_Z1f1aILi4294967297EE",
                "_Z1f1aILin4294967297EE", "_Z1f1aILi18446744073709551617EE", "_Z1f1aILiEE", "_Z1f1aILinEE", "_Z1f1aILPi5EE",
                "_Z1f1aILS_5EE", "_Z1f1aIL1b5EE", "_Z1f1aIL5EE", "_Z1f1aILi5");
        });
        check.sentence("PARAMETERS are types other than v.", () -> {
            reads("_Z1fPvKvb", "f(P(v),K(v),b)", "P(v) K(v)");
            refuses("_Z1fvi", "_Z1fiv", "_Z1fivi", "_Z1fiiv", "_Z1fvv", "_Z1fLi5E", "_Z1fFiviE", "_Z1fFiivE", "_Z1fFiiivE", "_Z1fFivvE");
        });
        check.sentence("A CONST is of no CONST.", () -> {
            reads("_Z1fKPKi", "f(K(P(K(i))))", "K(i) P(K(i)) K(P(K(i)))");
            refuses("_Z1fKKi", "_Z1fPKKi", "_Z1fKiKS_", "_Z1f1aIKKiE", "_Z1fKKKi");
        });
    }

    private static void table() {
        check.sentence("What comes into the table when it is written does so when it is read, also if it is there already", () -> {
            reads("_Z1f1a1a1a", "f(a,a,a)", "a a a");
            reads("_Z1fN1a1bEN1a1bE", "f(a::b,a::b)", "a a::b a a::b");
            reads("_Z1f1aIiE1aIiE", "f(a<i>,a<i>)", "a a<i> a a<i>");
            reads("_Z1fN1a1bIiEEN1a1bIiEE", "f(a::b<i>,a::b<i>)", "a a::b a::b<i> a a::b a::b<i>");
            reads("_Z1fPiPi", "f(P(i),P(i))", "P(i) P(i)");
            reads("_Z1fRiRi", "f(R(i),R(i))", "R(i) R(i)");
            reads("_Z1fKiKi", "f(K(i),K(i))", "K(i) K(i)");
            reads("_Z1fA7_iA7_i", "f(A7(i),A7(i))", "A7(i) A7(i)");
            reads("_Z1fFivEFivE", "f(F(i;),F(i;))", "F(i;) F(i;)");
            reads("_ZN1a1bE1aN1a1bE", "a::b(a,a::b)", "a a a a::b");
            reads("_Z1f1a1aPS0_", "f(a,a,P(a))", "a a P(a)");
            reads("_Z1fPiPiS0_", "f(P(i),P(i),P(i))", "P(i) P(i)");
            reads("_Z1f1aS_IiES_IiE", "f(a,a<i>,a<i>)", "a a<i> a<i>");
        });
        check.sentence("but what S tells .. does not.", () -> {
            reads("_Z1f1aS_S_", "f(a,a,a)", "a");
            reads("_Z1f1aPS_S0_", "f(a,P(a),P(a))", "a P(a)");
            reads("_Z1f1aNS_1bES0_", "f(a,a::b,a::b)", "a a::b");
            reads("_Z1f1aS_IiES0_", "f(a,a<i>,a<i>)", "a a<i>");
            reads("_Z1f1aFS_S_S_E", "f(a,F(a;a,a))", "a F(a;a,a)");
        });
        check.sentence("(it must be in the table)", () -> {
            refuses("_Z1fS_", "_Z1fS0_", "_Z1fPS_", "_Z1f1aS0_", "_Z1f1aS1_", "_Z1f1aPS_S1_", "_Z1f1aPS0_", "_Z1fFS_vE", "_Z1f1aIS0_E",
                "_Z1fA1_S_", "_Z1fiS_", "_Z1f1aILi5EES1_", "_ZN1aIS0_E1bEv", "_ZN1a1bIS1_EEii", "_Z1aIiES0_v", "_ZS_v", "_ZNS_1bEv");
            reads("_ZN1aIS_E1bEv", "a<a>::b()", "a a<a>");
            reads("_ZN1a1bIS0_EEii", "a::b<a::b>:i(i)", "a a::b");
            everyNumber();
        });
        check.sentence("to the base 36 (digits 0 .. 9, A .. Z, the highest first)", () -> {
            refuses("_Z1f1aPS_Sa_", "_Z1f1aPS_Sz_", "_Z1f1aPS_S-_", "_Z1f1aPS_S/_", "_Z1f1aPS_S:_", "_Z1f1aPS_S@_", "_Z1f1aPS_S[_",
                "_Z1f1aPS_S", "_Z1f1aPS_S0", "_Z1f1aPS_S0i", "_Z1f1aPS_S__", "_Z1f1aPS_Sn0_");
            takesSigns(MANY_TOLD + "S?_", "0123456789ABCDEFGHIJKLMNOPQRSTUVWXYZ");
            takesSigns(MANY_TOLD + "S1?_", "0123456789ABCDEFGHIJKLMNOPQRSTUVWXYZ");
            takesSigns(MANY_TOLD + "S2?_", "012345678");
            takesSigns(MANY_TOLD + "S?0_", "12");
        });
    }

    /** A text to which one parameter can be added, with 82 in its table. */
    private static final String MANY_TOLD =
        "_Z1sI" + ("P".repeat(13) + "i").repeat(3) + "E" + ("P".repeat(14) + "i").repeat(3);

    /** Each number that the table has, and those that are too great. */
    private static void everyNumber() {
        for (int number = 0; number < 100; number++) {
            NameWriter x = new NameWriter();
            String text = MANY_TOLD + "S" + (number == 0 ? "" : Integer.toString(number - 1, 36).toUpperCase()) + "_";
            Check.load(x, text);
            if (number >= 82) {
                check.refusesUnchanged("number " + number, BAD, x, x::read);
                continue;
            }
            int pointers = number < 40 ? (number - 1) % 13 + 1 : (number - 40) % 14 + 1;
            int entity = x.read();
            check.answers("kind of number " + number, number == 0 ? 1 : 4, () -> x.of(x.of(entity, 6), 0));
            check.answers("depth of number " + number, number == 0 ? 1 : pointers + 1, () -> x.of(x.of(entity, 6), 7));
            check.answers("the table's size", 82, () -> x.look(2));
        }
        for (String digits : new String[] {"ZZ", "100", "ZZZ", "1Z141Z3", "1Z141Z4", "3W5E11264SG0", "3W5E11264SG1"}) {
            refuses(MANY_TOLD + "S" + digits + "_");
        }
    }

    private static void types() {
        check.sentence("A TYPE is a BUILTIN's letter; S ..; an ID; .. N .. E; or P, R, K, A, F and what belongs to them.", () -> {
            reads("_Z1fPviRc", "f(P(v),i,R(c))", "P(v) R(c)");
            reads("_Z1fKA2_FvN1a1bEE", "f(K(A2(F(v;a::b))))", "a a::b F(v;a::b) A2(F(v;a::b)) K(A2(F(v;a::b)))");
            refuses("_Z1fP", "_Z1fR", "_Z1fK", "_Z1fA", "_Z1fA1", "_Z1fA1_", "_Z1fF", "_Z1fFi", "_Z1fFii", "_Z1fN", "_Z1fS", "_Z1fE",
                "_Z1fL", "_Z1fI", "_Z1f_", "_Z1fZ", "_Z1fd", "_Z1fn", "_Z1fPE", "_Z1fPLi5E", "_Z1fRIiE");
        });
        check.sentence("an ID or an S that tells a NAME, and ARGS", () -> {
            reads("_Z1f1aIiES_IcE", "f(a<i>,a<c>)", "a a<i> a<c>");
            reads("_Z1f1aPS_IS_IS_EE", "f(a,P(a<a<a>>))", "a a<a> a<a<a>> P(a<a<a>>)");
            refuses("_Z1fN1a1bES0_IiE", "_Z1f1aIiES0_IiE", "_Z1fN1a1bIiEES1_IiE", "_Z1fPiS_IiE", "_Z1fRiS_IiE", "_Z1fKiS_IiE",
                "_Z1fA7_iS_IiE", "_Z1fFivES_IiE");
        });
        check.sentence("(if I stands behind these, it begins ARGS)", () -> {
            refuses("_Z1f1aI", "_Z1f1aIi", "_Z1f1aII", "_Z1f1aS_I", "_Z1f1aS_IE", "_Z1f1aS_Ii", "_Z1fiI", "_Z1fiIiE", "_Z1fPiIiE",
                "_Z1f1aIiEIiE", "_Z1f1aS_IiEIiE", "_Z1fN1a1bEIiE", "_Z1f1aIiLi5E", "_Z1f1aIi_E");
        });
    }

    private static void nested() {
        check.sentence("N .. E holds an ID or an S that tells a PREFIX", () -> {
            reads("_Z1fN1a1bE", "f(a::b)", "a a::b");
            reads("_Z1f1aNS_1bE", "f(a,a::b)", "a a::b");
            reads("_Z1fN1a1bENS0_1cE", "f(a::b,a::b::c)", "a a::b a::b::c");
            reads("_Z1f1aIiENS0_1bE", "f(a<i>,a<i>::b)", "a a<i> a<i>::b");
            reads("_Z1fN1a1bIiEENS1_1cE", "f(a::b<i>,a::b<i>::c)", "a a::b a::b<i> a::b<i>::c");
            refuses("_Z1fPiNS_1bE", "_Z1fRiNS_1bE", "_Z1fKiNS_1bE", "_Z1fA7_iNS_1bE", "_Z1fFivENS_1bE", "_Z1fPiNS_IiE1bE",
                "_Z1fNi1bE", "_Z1fNPi1bE", "_Z1fNN1a1bE1cE", "_Z1fNIiE1bE", "_Z1fNLi5E1bE", "_Z1fNS_1bE", "_Z1f1aNS0_1bE");
        });
        check.sentence("then, once or more", () -> {
            refuses("_Z1fNE", "_Z1fN1aE", "_Z1f1aNS_E", "_Z1fN1a1bENS0_E", "_ZN1aEv", "_ZNEv", "_Z1fN1a", "_Z1fN1a1b", "_Z1fN1a1bi",
                "_Z1fN1a1bS_E", "_Z1fN1aiE", "_Z1fN1aS_E");
            reads("_Z1fN1a1b1c1d1eE", "f(a::b::c::d::e)", "a a::b a::b::c a::b::c::d a::b::c::d::e");
        });
        check.sentence("ARGS (which fill it in; it must be a NAME or MEMBER)", () -> {
            reads("_Z1fN1aIiE1bIcE1cE", "f(a<i>::b<c>::c)", "a a<i> a<i>::b a<i>::b<c> a<i>::b<c>::c");
            reads("_Z1f1aNS_IiE1bE", "f(a,a<i>::b)", "a a<i> a<i>::b");
            reads("_Z1fN1a1bENS0_IiE1cE", "f(a::b,a::b<i>::c)", "a a::b a::b<i> a::b<i>::c");
            refuses("_Z1fN1aIiEIiE1bE", "_Z1fN1a1bIiEIiEE", "_Z1f1aIiENS0_IiE1bE", "_Z1fN1a1bIiEENS1_IiEE", "_ZN1aIiEIiE1bEv",
                "_ZN1a1bIiEIiEEvv");
        });
        check.sentence("all but the last of these come into the table as prefixes do", () -> {
            reads("_ZN1a1bEv", "a::b()", "a");
            reads("_ZN1a1bIiEEvv", "a::b<i>:v()", "a a::b");
            reads("_ZN1aIiE1bEv", "a<i>::b()", "a a<i>");
            reads("_ZN1aI1cE1bI1dE1eEv", "a<c>::b<d>::e()", "a c a<c> a<c>::b d a<c>::b<d>");
            reads("_Z1f1aN1a1b1cE", "f(a,a::b::c)", "a a a::b a::b::c");
            reads("_Z1fN1a1bENS_1b1cE", "f(a::b,a::b::c)", "a a::b a::b a::b::c");
        });
        check.sentence("the whole must be a MEMBER or a FILLED MEMBER.", () -> {
            reads("_Z1fN1a1bENS0_IiEE", "f(a::b,a::b<i>)", "a a::b a::b<i>");
            reads("_Z1fN1aIiE1bIcEE", "f(a<i>::b<c>)", "a a<i> a<i>::b a<i>::b<c>");
            refuses("_Z1fN1aIiEE", "_Z1f1aNS_IiEE", "_ZN1aIiEEvv", "_ZN1aIiEEv");
        });
    }

    private static void entities() {
        check.sentence("The ENTITY is _Z", () -> {
            takesSigns("?Z1fv", "_");
            takesSigns("_?1fv", "Z");
            refuses("", "_", "Z", "_Z", "1fv", "Z1fv", "_1fv", "__Z1fv", "_ZZ1fv", "_z1fv");
        });
        check.sentence("an ID, perhaps with ARGS (then the NAME comes into the table ahead of these)", () -> {
            reads("_Z1av", "a()", "");
            reads("_Z1a1a", "a(a)", "a");
            reads("_Z1aIiEvv", "a<i>:v()", "a");
            reads("_Z1aIPiEvS0_S_", "a<P(i)>:v(P(i),a)", "a P(i)");
            reads("_Z1aIS_PS_ES_IiEv", "a<a,P(a)>:a<i>()", "a P(a) a<i>");
        });
        check.sentence("or N .. E", () -> {
            reads("_ZN1a1bES_", "a::b(a)", "a");
            refuses("_ZPiv", "_Ziv", "_ZS_v", "_ZA1_iv", "_ZFivEv", "_ZRiv", "_ZKiv", "_ZLi5Ev", "_ZIiEv", "_ZEv", "_ZN1a1bEE",
                "_ZN1a1bEIiEvv");
        });
        check.sentence("for a FILLED one a type", () -> {
            reads("_Z1aIiEvi", "a<i>:v(i)", "a");
            reads("_ZN1a1bIiEES_S0_", "a::b<i>:a(a::b)", "a a::b");
            refuses("_Z1aIiE", "_Z1aIiEv", "_Z1aIiEi", "_ZN1a1bIiEE", "_ZN1a1bIiEEv", "_Z1aIiELi5Ev", "_Z1aIiEEv", "_Z1fFviEv");
            refuses("_Z1avi", "_ZN1a1bEvi", "_ZN1aIiE1bEvi");
        });
        check.sentence("PARAMS: v, or one to three types.", () -> {
            reads("_Z1fi", "f(i)", "");
            reads("_Z1fic", "f(i,c)", "");
            reads("_Z1fics", "f(i,c,s)", "");
            refuses("_Z1f", "_ZN1a1bE", "_Z1ficsj", "_Z1fiiii", "_Z1fPiPiPiPi", "_Z1aIiEv", "_Z1aIiEviiii");
        });
    }

    private static void wholeTexts() {
        check.sentence("Lengths and numbers have no 0 ahead (0 itself has one digit; n 0 is none).", () -> {
            reads("_Z1f1aILi0EPiE", "f(a<0i,P(i)>)", "a P(i) a<0i,P(i)>");
            reads("_Z1fA10_iA100_iA101_i", "f(A10(i),A100(i),A101(i))", "A10(i) A100(i) A101(i)");
            reads("_Z1f1aILin10ELi100EE", "f(a<-10i,100i>)", "a a<-10i,100i>");
            refuses("_Z01fv", "_Z001fv", "_Z1f01a", "_Z1f02ab", "_ZN01a1bEv", "_ZN1a01bEv", "_Z0v", "_Z00v");
            refuses("_Z1fA01_i", "_Z1fA001_i", "_Z1fA010_i", "_Z1fA00_i", "_Z1fA0_i", "_Z1fA0999_i");
            refuses("_Z1f1aILi00EE", "_Z1f1aILi01EE", "_Z1f1aILi000001EE", "_Z1f1aILin01EE", "_Z1f1aILin0EE", "_Z1f1aILin00EE",
                "_Z1f1aILi0999999EE", "_Z1f1aILinn1EE", "_Z1f1aILi1nEE");
            reads("_Z1f1aPS_S0_", "f(a,P(a),P(a))", "a P(a)");
            refuses("_Z1f1aPS_S00_", "_Z1f1aPS_S000_", "_Z1f1aPPS_S01_", "_Z1f1aPPS_S001_");
        });
        check.sentence("The text must end with the entity", () -> {
            takesSigns("_Z1fv?", "");
            takesSigns("_Z1fiii?", "");
            takesSigns("_ZN1a1bEiiPi?", "");
            takesSigns("_Z1aIiEvv?", "");
            takesSigns("_Z1fi?", "bcsijlx");
            String text = "_ZN1a1bILin50ES_A12_PKiE1cIvEEvFRS1_1eIiEN1g1hEE";
            String scope = "a::b<-50i,a,A12(P(K(i)))>";
            String last = "F(R(K(i));e<i>,g::h)";
            reads(text, scope + "::c<v>:v(" + last + ")",
                "a a::b K(i) P(K(i)) A12(P(K(i))) " + scope + " " + scope + "::c R(K(i)) e e<i> g g::h " + last);
            for (int length = 0; length < text.length(); length++) {
                refuses(text.substring(0, length));
            }
        });
        check.sentence("all nodes must be as said above (also the DEPTH).", ReadEdgeTest::depths);
    }

    /** Each way in which a part can nest: what stands between the marks is told once more for each step. */
    private static void depths() {
        deepens(3, "_Z1f(P)i", "_Z1f(R)i", "_Z1f(A1_)i", "_Z1fi(P)i", "_Z1fii(P)i", "_Z1aIiE(P)iv", "_Z1aIiEv(P)i", "_ZN1a(1m)Ev",
            "_Z1fN1a(1m)E", "_Z1f1aNS_(1m)E", "_Z1f(P)1a");
        deepens(4, "_Z1aI(P)iEvv", "_Z1aIi(P)iEvv", "_Z1aIii(P)iEvv", "_Z1fF(P)ivE", "_Z1fFi(P)iE", "_Z1fFii(P)iE", "_Z1fFiii(P)iE",
            "_Z1f1aI(P)iE", "_Z1f1aIi(P)iE", "_Z1f1aIii(P)iE", "_Z1fN1a1bI(P)iEE", "_ZN1a(1m)IiEEvv", "_Z1fN1a(1m)IiEE",
            "_ZN1aIiE(1m)Ev", "_Z1f(P)1aIiE", "_Z1f(P)N1a1bE", "_Z1f1aPS_(P)S0_", "_ZN1a1bI(P)iEEvv");
        deepens(5, "_Z1fN1aI(P)iE1bE", "_Z1f(P)1aILi5EE");
        deepens(6, "_Z1fA1_FvK(P)iE");
        nests("1aI", "E", 3, 1);
        nests("1aIi", "E", 3, 1);
        nests("1aIii", "E", 3, 1);
        nests("F", "vE", 3, 1);
        nests("Fi", "E", 3, 1);
        nests("Fii", "E", 3, 1);
        nests("Fiii", "E", 3, 1);
        nests("N1a1bI", "EE", 4, 1);
        nests("N1aI", "E1bE", 4, 2);
        nests("KP", "", 4, 2);
    }

    /** depth is that of the entity if what stands between the marks stands there once. */
    private static void deepens(int depth, String... ways) {
        for (String way : ways) {
            int open = way.indexOf('(');
            int close = way.indexOf(')');
            String step = way.substring(open + 1, close);
            for (int count = 1; way.length() - 2 + step.length() * (count - 1) <= 120; count++) {
                hasDepth(way.substring(0, open) + step.repeat(count) + way.substring(close + 1), depth + count - 1);
            }
        }
    }

    private static void nests(String ahead, String behind, int depth, int step) {
        for (int count = 1; 5 + (ahead.length() + behind.length()) * count <= 120; count++) {
            hasDepth("_Z1f" + ahead.repeat(count) + "i" + behind.repeat(count), depth + step * (count - 1));
        }
        for (int count = 1; 4 + ahead.length() * count <= 120; count++) {
            refuses("_Z1f" + ahead.repeat(count));
        }
    }

    private static void hasDepth(String text, int depth) {
        NameWriter x = new NameWriter();
        Check.load(x, text);
        if (depth > 16) {
            check.refusesUnchanged(text, BAD, x, x::read);
        } else {
            check.answers("depth of " + text, depth, () -> x.of(x.read(), 7));
        }
    }

    private static void promise16() {
        check.sentence("The text (which stays) is READ", () -> {
            NameWriter x = new NameWriter();
            for (String text : new String[] {"_Z1fPiPi", "_Z1f!", "", "_Z1fv"}) {
                Check.load(x, text);
                Check.outcome(x::read);
                check.same("the text", Check.textOf(x), text);
                check.answers("characters", text.length(), () -> x.look(1));
            }
        });
        check.sentence("the entity", () -> {
            NameWriter x = Zoo.make();
            check.answers("one that is there", 10, () -> Check.read(x, "_Z1ai"));
            check.answers("again", 10, x::read);
            check.answers("a new one", 11, () -> Check.read(x, "_Z1aii"));
            check.answers("again", 11, x::read);
        });
        check.sentence("nodes that are not there are made", () -> {
            NameWriter x = Zoo.make();
            check.answers("an entity alone", 11, () -> Check.read(x, "_ZN1a1bE1aIiEPiFiiE"));
            check.same("its cells", Check.cellsOf(x, 11), "10 0 2 -1 3 4 8 3");
            check.answers("no BUILTIN for v", 12, () -> Check.read(x, "_Z1av"));
            check.answers("nodes", 13, () -> x.look(0));
            check.answers("no BUILTIN for v", 14, () -> Check.read(x, "_Z1aFivE"));
            check.answers("nodes", 15, () -> x.look(0));
            check.answers("a BUILTIN for v that is given", 16, () -> Check.read(x, "_Z1aIiEvi"));
            check.same("its cells", Check.cellsOf(x, 15), "0 0 -1 -1 -1 -1 -1 1");
        });
        check.sentence("each behind its parts, in the order in which they end.", ReadEdgeTest::order);
        check.sentence("IllegalArgumentException if it is not right", ReadEdgeTest::notRight);
        check.sentence("What throws, or answers false, changes nothing.", ReadEdgeTest::makingBehindRefusals);
        check.sentence("IllegalStateException if it is, but there would be more than 60 nodes.", ReadEdgeTest::moreThan60);
    }

    /** Right behind the refusal, so that no other call clears up what it left. */
    private static void makingBehindRefusals() {
        for (Zoo.Maker maker : Zoo.newOnes()) {
            NameWriter x = wronglyRead();
            check.answers(maker.call(), 11, () -> maker.on(x));
            check.answers("nodes", 12, () -> x.look(0));
            NameWriter y = crowdedRead();
            check.answers(maker.call() + " in a crowd", 57, () -> maker.on(y));
            check.answers("nodes", 58, () -> y.look(0));
        }
        for (int node = 11; node <= 17; node++) {
            int never = node;
            check.answers("of", Check.NONE, () -> wronglyRead().of(never, 0));
            check.refuses("member", BAD, () -> wronglyRead().member(never, 'q'));
            check.refuses("fill", BAD, () -> wronglyRead().fill(1, never, Check.NONE, Check.NONE));
            check.refuses("wrap", BAD, () -> wronglyRead().wrap(4, never));
            check.refuses("write", BAD, () -> wronglyRead().write(never));
        }
        for (int node = 57; node <= 61; node++) {
            int never = node;
            check.answers("of in a crowd", Check.NONE, () -> crowdedRead().of(never, 0));
            check.refuses("wrap in a crowd", BAD, () -> crowdedRead().wrap(4, never));
            check.refuses("write in a crowd", BAD, () -> crowdedRead().write(never));
        }
        NameWriter x = wronglyRead();
        check.answers("another reading", 11, () -> Check.read(x, "_Z1aii"));
        check.same("its table", Check.tableOf(x), "");
        NameWriter y = wronglyRead();
        check.answers("a writing", 5, () -> y.write(10));
        check.same("its table", Check.tableOf(y), "");
    }

    private static NameWriter wronglyRead() {
        NameWriter x = Zoo.make();
        Check.load(x, "_ZN1q1rIcEEPxRsKb_");
        check.refuses("wrong at the end", BAD, x::read);
        return x;
    }

    private static NameWriter crowdedRead() {
        NameWriter x = Zoo.make();
        Check.crowd(x, 57);
        Check.load(x, "_Z1yPxi");
        check.refuses("61 nodes", FULL, x::read);
        return x;
    }

    private static void order() {
        NameWriter x = new NameWriter();
        check.answers("read", 16, () -> Check.read(x, "_ZN1a1bI1cLin7EE1dIPKsEEFvxES0_A3_R1c"));
        String[] due = {"a", "a::b", "c", "i", "-7i", "a::b<c,-7i>", "a::b<c,-7i>::d", "s", "K(s)", "P(K(s))",
            "a::b<c,-7i>::d<P(K(s))>", "v", "x", "F(v;x)", "R(c)", "A3(R(c))"};
        check.answers("nodes", due.length + 1, () -> x.look(0));
        for (int node = 0; node < due.length; node++) {
            check.same("node " + node, Tree.of(x, node), due[node]);
        }
    }

    private static void notRight() {
        NameWriter x = Zoo.make();
        Check.read(x, "_Z1aPi");
        Check.load(x, "_Z1bRcPxN1q1rE_");
        check.refusesUnchanged("wrong at the end", BAD, x, x::read);
        check.refuses("what was never made", BAD, () -> x.wrap(4, 12));
        check.answers("the next number", 12, () -> x.name('y'));
        check.refuses("read again", BAD, x::read);
        check.answers("a number that was not taken", Check.NONE, () -> x.of(13, 0));
        check.answers("the next number", 13, () -> x.name('z'));
    }

    private static void moreThan60() {
        String head = "_Z1aI" + "P".repeat(13) + "b" + "P".repeat(13) + "c" + "P".repeat(13) + "sE" + "P".repeat(12) + "i";
        NameWriter sixty = new NameWriter();
        check.answers("60 nodes", 59, () -> Check.read(sixty, head + "jl"));
        check.answers("nodes", 60, () -> sixty.look(0));
        check.answers("read again", 59, sixty::read);
        Check.load(sixty, head + "lj");
        check.refusesUnchanged("an entity more", FULL, sixty, sixty::read);
        for (String behind : new String[] {"jlx", "jPl", "jA1_l", "jFlvE", "PPPPPPPPPPPPPPjPPPPPPPPPPPPPPlPPPPPPPPPPPPPPx"}) {
            NameWriter x = new NameWriter();
            Check.load(x, head + behind);
            check.refusesUnchanged(behind, FULL, x, x::read);
            check.answers("the first node", 0, () -> x.name('q'));
        }
        for (String behind : new String[] {"jlx!", "jlxi", "jlxv", "jlS12_!", "jlKKx", "jlPPPPPPPPPPPPPPPx"}) {
            NameWriter x = new NameWriter();
            Check.load(x, head + behind);
            check.refusesUnchanged("wrong, and too many: " + behind, BAD, x, x::read);
        }
        crowded(head);
    }

    private static void crowded(String head) {
        NameWriter x = Zoo.make();
        Check.crowd(x, 58);
        Check.load(x, "_Z1aPPPi");
        check.refusesUnchanged("61 with the entity", FULL, x, x::read);
        check.answers("60 with the entity", 59, () -> Check.read(x, "_Z1aPPi"));
        check.answers("nodes", 60, () -> x.look(0));
        check.answers("all there", 10, () -> Check.read(x, "_Z1ai"));
        NameWriter full = new NameWriter();
        Check.crowd(full, 60);
        String most = head + "PP" + "P".repeat(12) + "j" + "P".repeat(14) + "l" + "P".repeat(14) + "x";
        Check.load(full, most);
        check.refusesUnchanged("as many as a text can make", FULL, full, full::read);
    }
}
