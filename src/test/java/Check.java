/** Counts the answers that are not as due, and the small ways in which all tests use a NameWriter. */
final class Check {
    static final int NONE = NameWriter.NONE;
    static final String BAD = "IllegalArgumentException";
    static final String FULL = "IllegalStateException";
    static final String LONG = "UnsupportedOperationException";

    private int asked;
    private int wrong;
    private String sentence = "";

    /** A call that answers a number. */
    interface Call {
        long answer();
    }

    /** The test of one sentence of the document; its words stand ahead of each answer that is not as due. */
    void sentence(String words, Runnable test) {
        sentence = "'" + words + "': ";
        try {
            test.run();
        } catch (RuntimeException e) {
            same("the test", e.toString(), "no exception");
        }
        sentence = "";
    }

    void same(String what, Object got, Object due) {
        asked++;
        if (!got.equals(due)) {
            wrong++;
            System.out.println(sentence + what + " answered " + got + ", due is " + due);
        }
    }

    void answers(String what, long due, Call call) {
        same(what, outcome(call), Long.toString(due));
    }

    void refuses(String what, String exception, Call call) {
        same(what, outcome(call), exception);
    }

    /** The call is refused, and the object is as it was. */
    void refusesUnchanged(String what, String exception, NameWriter x, Call call) {
        String before = stateOf(x);
        refuses(what, exception, call);
        same("the state behind " + what, stateOf(x), before);
    }

    /** What the call answers, or the plain name of what it throws, as a text. */
    static String outcome(Call call) {
        try {
            return Long.toString(call.answer());
        } catch (RuntimeException e) {
            return e.getClass().getSimpleName();
        }
    }

    /** Ends the test's program with the exit code that .ci/run looks at. */
    void end() {
        System.out.println(asked + " answers, " + wrong + " of them not as due");
        if (wrong != 0) {
            System.exit(1);
        }
    }

    static int id(String letters) {
        return (int) part(letters);
    }

    static long part(String letters) {
        long part = 0;
        for (int i = 0; i < letters.length(); i++) {
            part = part << 8 | letters.charAt(i);
        }
        return part;
    }

    /** Makes letters the text, if they can be typed. */
    static boolean load(NameWriter x, String letters) {
        x.wipe();
        boolean typed = true;
        for (int from = 0; from < letters.length(); from += 8) {
            typed &= x.type(part(letters.substring(from, Math.min(from + 8, letters.length()))));
        }
        return typed;
    }

    static int read(NameWriter x, String letters) {
        load(x, letters);
        return x.read();
    }

    static String textOf(NameWriter x) {
        StringBuilder letters = new StringBuilder();
        for (int letter = x.text(0); letter != NONE; letter = x.text(letters.length())) {
            letters.append((char) letter);
        }
        return letters.toString();
    }

    static String tableOf(NameWriter x) {
        StringBuilder row = new StringBuilder();
        int count = 0;
        for (int node = x.table(0); node != NONE; node = x.table(count)) {
            row.append(count == 0 ? "" : " ").append(node);
            count++;
        }
        return row.toString();
    }

    /** The cells 0 .. 7 of a node. */
    static String cellsOf(NameWriter x, int node) {
        StringBuilder row = new StringBuilder();
        for (int w = 0; w < 8; w++) {
            row.append(w == 0 ? "" : " ").append(x.of(node, w));
        }
        return row.toString();
    }

    /**
     * Counts, the cells of the last nodes and of the one behind them, the text and the table: not of all nodes, as an
     * object is used for 512 calls alone.
     */
    static String stateOf(NameWriter x) {
        StringBuilder state = new StringBuilder();
        int nodes = x.look(0);
        state.append(nodes).append(' ').append(x.look(1)).append(' ').append(x.look(2));
        for (int node = Math.max(0, nodes - 8); node <= nodes; node++) {
            state.append(" / ").append(cellsOf(x, node));
        }
        return state.append(" / ").append(textOf(x)).append(" / ").append(tableOf(x)).toString();
    }

    static String written(NameWriter x, int entity) {
        x.write(entity);
        return textOf(x);
    }

    /** Adds NAMES that no test uses otherwise until there are count nodes. */
    static void crowd(NameWriter x, int count) {
        for (int i = 0; x.look(0) < count; i++) {
            x.name(id("z" + (char) ('a' + i / 26) + (char) ('a' + i % 26)));
        }
    }
}
