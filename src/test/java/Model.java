import java.util.ArrayList;
import java.util.Arrays;
import java.util.List;
import java.util.regex.Matcher;
import java.util.regex.Pattern;

/** The document once more, with whole trees and texts in place of numbers, to hold the class against. */
final class Model {
    private static final String LETTERS = "vbcsijlx";

    /** A whole tree; two of them are equal if they are the same node. */
    record Node(int kind, int value, Node first, Node gives, List<Node> parts) {
        int depth() {
            int deepest = Math.max(first == null ? 0 : first.depth(), gives == null ? 0 : gives.depth());
            for (Node part : parts) {
                deepest = Math.max(deepest, part.depth());
            }
            return deepest + 1;
        }

        boolean isPrefix() {
            return kind >= 1 && kind <= 3;
        }

        boolean isType() {
            return kind <= 8;
        }

        boolean isVoid() {
            return kind == 0 && value == 0;
        }

        boolean isRight() {
            return depth() <= 16 && switch (kind) {
                case 0 -> value >= 0 && value < 8;
                case 1 -> idOf(value).matches("[a-z]{1,3}");
                case 2 -> first.isPrefix() && idOf(value).matches("[a-z]{1,3}");
                case 3 -> (first.kind == 1 || first.kind == 2) && !parts.isEmpty()
                    && parts.stream().allMatch(part -> part.isType() || part.kind == 9);
                case 4, 5 -> first.isType();
                case 6 -> first.isType() && first.kind != 6;
                case 7 -> first.isType() && value >= 1 && value <= 999;
                case 8 -> first.isType() && parts.stream().allMatch(part -> part.isType() && !part.isVoid());
                case 9 -> first.kind == 0 && !first.isVoid() && Math.abs((long) value) <= 999999;
                case 10 -> first.isPrefix() && (first.kind == 3 ? gives != null && gives.isType() : gives == null)
                    && parts.stream().allMatch(part -> part.isType() && !part.isVoid());
                default -> false;
            };
        }
    }

    private final List<Node> nodes = new ArrayList<>();
    private String text = "";
    private List<Node> table = new ArrayList<>();

    static String idOf(int id) {
        StringBuilder letters = new StringBuilder();
        boolean begun = false;
        for (int shift = 24; shift >= 0; shift -= 8) {
            int letter = id >>> shift & 255;
            begun |= letter != 0;
            if (begun) {
                letters.append((char) letter);
            }
        }
        return letters.toString();
    }

    private int add(Node node) {
        if (!node.isRight()) {
            throw new IllegalArgumentException();
        }
        if (!nodes.contains(node)) {
            if (nodes.size() == 60) {
                throw new IllegalStateException();
            }
            nodes.add(node);
        }
        return nodes.indexOf(node);
    }

    private Node get(int number) {
        if (number < 0 || number >= nodes.size()) {
            throw new IllegalArgumentException();
        }
        return nodes.get(number);
    }

    private List<Node> getAll(int... numbers) {
        List<Node> found = new ArrayList<>();
        boolean ended = false;
        for (int number : numbers) {
            if (number == -1) {
                ended = true;
            } else if (ended) {
                throw new IllegalArgumentException();
            } else {
                found.add(get(number));
            }
        }
        return found;
    }

    int builtin(int k) {
        return add(new Node(0, k, null, null, List.of()));
    }

    int name(int id) {
        return add(new Node(1, id, null, null, List.of()));
    }

    int member(int prefix, int id) {
        return add(new Node(2, id, get(prefix), null, List.of()));
    }

    int fill(int name, int a, int b, int c) {
        return add(new Node(3, 0, get(name), null, getAll(a, b, c)));
    }

    int wrap(int kind, int type) {
        if (kind < 4 || kind > 6) {
            throw new IllegalArgumentException();
        }
        return add(new Node(kind, 0, get(type), null, List.of()));
    }

    int array(int type, int n) {
        return add(new Node(7, n, get(type), null, List.of()));
    }

    int function(int gives, int a, int b, int c) {
        return add(new Node(8, 0, get(gives), null, getAll(a, b, c)));
    }

    int literal(int builtin, int value) {
        return add(new Node(9, value, get(builtin), null, List.of()));
    }

    int entity(int scoped, int gives, int a, int b, int c) {
        return add(new Node(10, 0, get(scoped), gives == -1 ? null : get(gives), getAll(a, b, c)));
    }

    int of(int number, int w) {
        if (number < 0 || number >= nodes.size()) {
            return -1;
        }
        Node node = nodes.get(number);
        return switch (w) {
            case 0 -> node.kind;
            case 1 -> node.value;
            case 2 -> nodes.indexOf(node.first);
            case 3 -> nodes.indexOf(node.gives);
            case 4, 5, 6 -> w - 4 < node.parts.size() ? nodes.indexOf(node.parts.get(w - 4)) : -1;
            case 7 -> node.depth();
            default -> -1;
        };
    }

    int write(int number) {
        Node entity = get(number);
        if (entity.kind != 10) {
            throw new IllegalArgumentException();
        }
        List<Node> told = new ArrayList<>();
        String written = "_Z" + body(entity.first, told);
        if (entity.gives != null) {
            written += type(entity.gives, told);
        }
        written += params(entity, told);
        if (written.length() > 120) {
            throw new UnsupportedOperationException();
        }
        text = written;
        table = told;
        return text.length();
    }

    private static String told(int number) {
        return "S" + (number == 0 ? "" : Integer.toString(number - 1, 36).toUpperCase()) + "_";
    }

    private static String idText(Node node) {
        String letters = idOf(node.value);
        return letters.length() + letters;
    }

    private static String prefix(Node node, List<Node> told) {
        if (told.contains(node)) {
            return told(told.indexOf(node));
        }
        String written = node.first == null ? "" : prefix(node.first, told);
        written += node.kind == 3 ? args(node, told) : idText(node);
        told.add(node);
        return written;
    }

    private static String type(Node node, List<Node> told) {
        if (node.kind == 0) {
            return LETTERS.substring(node.value, node.value + 1);
        }
        if (told.contains(node)) {
            return told(told.indexOf(node));
        }
        String written = body(node, told);
        told.add(node);
        return written;
    }

    private static String body(Node node, List<Node> told) {
        return switch (node.kind) {
            case 1 -> idText(node);
            case 2 -> "N" + prefix(node.first, told) + idText(node) + "E";
            case 3 -> node.first.kind == 1 ? prefix(node.first, told) + args(node, told)
                : "N" + prefix(node.first, told) + args(node, told) + "E";
            case 4 -> "P" + type(node.first, told);
            case 5 -> "R" + type(node.first, told);
            case 6 -> "K" + type(node.first, told);
            case 7 -> "A" + node.value + "_" + type(node.first, told);
            default -> "F" + type(node.first, told) + params(node, told) + "E";
        };
    }

    private static String args(Node node, List<Node> told) {
        StringBuilder written = new StringBuilder("I");
        for (Node part : node.parts) {
            if (part.kind == 9) {
                written.append('L').append(type(part.first, told)).append(part.value < 0 ? "n" : "")
                    .append(Math.abs(part.value)).append('E');
            } else {
                written.append(type(part, told));
            }
        }
        return written.append('E').toString();
    }

    private static String params(Node node, List<Node> told) {
        StringBuilder written = new StringBuilder(node.parts.isEmpty() ? "v" : "");
        for (Node part : node.parts) {
            written.append(type(part, told));
        }
        return written.toString();
    }

    boolean type(long part) {
        StringBuilder longer = new StringBuilder(text);
        for (int i = 7; i >= 0; i--) {
            int letter = (int) (part >>> 8 * i & 255);
            if (letter != 0 && (letter <= 32 || letter >= 127)) {
                return false;
            }
            longer.append(letter == 0 ? "" : Character.toString(letter));
        }
        if (longer.length() > 120) {
            return false;
        }
        text = longer.toString();
        return true;
    }

    void wipe() {
        text = "";
    }

    int text(int i) {
        return i >= 0 && i < text.length() ? text.charAt(i) : -1;
    }

    String text() {
        return text;
    }

    int table(int i) {
        return i >= 0 && i < table.size() ? nodes.indexOf(table.get(i)) : -1;
    }

    int look(int which) {
        return which == 0 ? nodes.size() : which == 1 ? text.length() : which == 2 ? table.size() : -1;
    }

    int read() {
        Reading reading = new Reading(text);
        Node entity = reading.entity();
        List<Node> more = new ArrayList<>(nodes);
        for (Node node : reading.ended) {
            if (!more.contains(node)) {
                more.add(node);
            }
        }
        if (more.size() > 60) {
            throw new IllegalStateException();
        }
        nodes.clear();
        nodes.addAll(more);
        table = reading.told;
        return nodes.indexOf(entity);
    }

    /** One way through a text; what is left of it gets shorter. */
    private static final class Reading {
        private final List<Node> ended = new ArrayList<>();
        private final List<Node> told = new ArrayList<>();
        private String rest;

        Reading(String text) {
            rest = text;
        }

        private boolean at(String start) {
            return rest.startsWith(start);
        }

        /** Takes what the pattern finds at the start. */
        private String take(String pattern) {
            Matcher matcher = Pattern.compile(pattern).matcher(rest);
            if (!matcher.lookingAt()) {
                throw new IllegalArgumentException();
            }
            rest = rest.substring(matcher.end());
            return matcher.group();
        }

        private Node end(int kind, int value, Node first, Node gives, Node... parts) {
            Node node = new Node(kind, value, first, gives, Arrays.asList(parts));
            if (!node.isRight()) {
                throw new IllegalArgumentException();
            }
            ended.add(node);
            return node;
        }

        private Node tell(Node node) {
            told.add(node);
            return node;
        }

        Node entity() {
            take("_Z");
            Node scoped = at("N") ? nested() : nameWithArgs();
            Node gives = scoped.kind == 3 ? type() : null;
            List<Node> params = params("$");
            return end(10, 0, scoped, gives, params.toArray(new Node[0]));
        }

        private List<Node> params(String close) {
            List<Node> params = new ArrayList<>();
            if (at("v")) {
                take("v");
            } else {
                do {
                    params.add(type());
                } while (params.size() < 3 && !(close.equals("$") ? rest.isEmpty() : at(close)));
            }
            take(close);
            return params;
        }

        private int id() {
            String head = take("1[a-z]|2[a-z]{2}|3[a-z]{3}");
            return (int) Check.part(head.substring(1));
        }

        private Node nameWithArgs() {
            Node name = end(1, id(), null, null);
            return at("I") ? args(tell(name)) : name;
        }

        private Node args(Node filled) {
            take("I");
            List<Node> args = new ArrayList<>();
            do {
                args.add(at("L") ? literal() : type());
            } while (args.size() < 3 && !at("E"));
            take("E");
            return end(3, 0, filled, null, args.toArray(new Node[0]));
        }

        private Node literal() {
            String all = take("L[bcsijlx](n?[1-9][0-9]{0,5}|0)E");
            Node builtin = end(0, LETTERS.indexOf(all.charAt(1)), null, null);
            return end(9, Integer.parseInt(all.substring(2, all.length() - 1).replace('n', '-')), builtin, null);
        }

        private Node fromTable() {
            String all = take("S(0|[1-9A-Z][0-9A-Z]{0,3})?_");
            String digits = all.substring(1, all.length() - 1);
            return pick(digits.isEmpty() ? 0 : Integer.parseInt(digits, 36) + 1);
        }

        private Node pick(int number) {
            if (number >= told.size()) {
                throw new IllegalArgumentException();
            }
            return told.get(number);
        }

        private Node nested() {
            take("N");
            Node whole = at("S") ? fromTable() : tell(end(1, id(), null, null));
            if (!whole.isPrefix()) {
                throw new IllegalArgumentException();
            }
            int steps = 0;
            while (!at("E")) {
                if (steps > 0) {
                    tell(whole);
                }
                whole = at("I") ? args(whole) : end(2, id(), whole, null);
                steps++;
            }
            take("E");
            if (steps == 0 || !(whole.kind == 2 || whole.kind == 3 && whole.first.kind == 2)) {
                throw new IllegalArgumentException();
            }
            return whole;
        }

        private Node type() {
            if (rest.isEmpty()) {
                throw new IllegalArgumentException();
            }
            char letter = rest.charAt(0);
            if (LETTERS.indexOf(letter) >= 0) {
                take("[a-z]");
                return end(0, LETTERS.indexOf(letter), null, null);
            }
            if (letter == 'S') {
                Node node = fromTable();
                return node.kind == 1 && at("I") ? tell(args(node)) : node;
            }
            if (letter == 'N') {
                return tell(nested());
            }
            if ("PRK".indexOf(letter) >= 0) {
                take("[PRK]");
                return tell(end(4 + "PRK".indexOf(letter), 0, type(), null));
            }
            if (letter == 'A') {
                String number = take("A[1-9][0-9]{0,2}_").replaceAll("[A_]", "");
                return tell(end(7, Integer.parseInt(number), type(), null));
            }
            if (letter == 'F') {
                take("F");
                Node gives = type();
                return tell(end(8, 0, gives, null, params("E").toArray(new Node[0])));
            }
            return tell(nameWithArgs());
        }
    }
}
