/** Nodes told in a way that can be read at a glance, by of() alone. */
final class Tree {
    private static final int NONE = Check.NONE;

    private Tree() {
    }

    /** i, a, a::b, a<i,3i>, P(i), R(i), K(i), A7(i), F(i;c,x), 3i for a LITERAL, and a(i,c) or a<i>:v(i) for an ENTITY. */
    static String of(NameWriter x, int node) {
        int value = x.of(node, 1);
        String first = x.of(node, 2) == NONE ? "" : of(x, x.of(node, 2));
        return switch (x.of(node, 0)) {
            case 0 -> String.valueOf("vbcsijlx".charAt(value));
            case 1 -> Model.idOf(value);
            case 2 -> first + "::" + Model.idOf(value);
            case 3 -> first + "<" + parts(x, node) + ">";
            case 4 -> "P(" + first + ")";
            case 5 -> "R(" + first + ")";
            case 6 -> "K(" + first + ")";
            case 7 -> "A" + value + "(" + first + ")";
            case 8 -> "F(" + first + ";" + parts(x, node) + ")";
            case 9 -> value + first;
            case 10 -> first + (x.of(node, 3) == NONE ? "" : ":" + of(x, x.of(node, 3))) + "(" + parts(x, node) + ")";
            default -> "?";
        };
    }

    private static String parts(NameWriter x, int node) {
        StringBuilder row = new StringBuilder();
        for (int w = 4; w <= 6 && x.of(node, w) != NONE; w++) {
            row.append(w == 4 ? "" : ",").append(of(x, x.of(node, w)));
        }
        return row.toString();
    }

    static String table(NameWriter x) {
        StringBuilder row = new StringBuilder();
        for (int i = 0; i < x.look(2); i++) {
            row.append(i == 0 ? "" : " ").append(of(x, x.table(i)));
        }
        return row.toString();
    }
}
