/**
 * Names of functions with scopes, filled-in templates and types, as trees of numbered nodes; an entity is written as
 * one row of characters in which what stood before is told by its number, and read again.
 */
public final class NameWriter {
    public static final int NONE = -1;

    private static final int MOST_NODES = 60;
    private static final int MOST_CHARACTERS = 120;
    private static final int MOST_DEPTH = 16;

    // The kinds of nodes; TYPES are 0 .. 8 and PREFIXES 1 .. 3, so both can be told by their ends.
    private static final int BUILTIN = 0;
    private static final int NAME = 1;
    private static final int MEMBER = 2;
    private static final int FILLED = 3;
    private static final int POINTER = 4;
    private static final int REFERENCE = 5;
    private static final int CONST = 6;
    private static final int ARRAY = 7;
    private static final int FUNCTION = 8;
    private static final int LITERAL = 9;
    private static final int ENTITY = 10;

    // The cells of a node, in the order of of()'s w, so that of() answers with the cell itself.
    private static final int KIND = 0;
    private static final int VALUE = 1;
    private static final int FIRST = 2;
    private static final int GIVES = 3;
    private static final int PART_A = 4;
    private static final int PART_B = 5;
    private static final int PART_C = 6;
    private static final int DEPTH = 7;
    private static final int CELLS = 8;

    private static final int VOID = 0;
    private static final String BUILTIN_LETTERS = "vbcsijlx";

    private static final int LONGEST_ID = 3;
    private static final int GREATEST_LENGTH = 999;
    private static final int GREATEST_LITERAL = 999999;

    private final Nodes nodes;
    private final Row text;
    private final Row table;
    private final Writer writer;
    private final Reader reader;

    public NameWriter() {
        Nodes none = new Nodes();
        Row empty = new Row();
        nodes = none;
        text = empty;
        table = new Row();
        writer = new Writer(none);
        reader = new Reader(none, empty);
    }

    public int builtin(int k) throws IllegalArgumentException, IllegalStateException {
        nodes.dropDrafts();
        return nodes.keepDrafts(nodes.addBuiltin(k));
    }

    public int name(int id) throws IllegalArgumentException, IllegalStateException {
        nodes.dropDrafts();
        return nodes.keepDrafts(nodes.addName(id));
    }

    public int member(int prefix, int id) throws IllegalArgumentException, IllegalStateException {
        nodes.dropDrafts();
        return nodes.keepDrafts(nodes.addMember(prefix, id));
    }

    public int fill(int name, int a, int b, int c) throws IllegalArgumentException, IllegalStateException {
        nodes.dropDrafts();
        return nodes.keepDrafts(nodes.addFilled(name, a, b, c));
    }

    public int wrap(int kind, int type) throws IllegalArgumentException, IllegalStateException {
        nodes.dropDrafts();
        return nodes.keepDrafts(nodes.addWrapped(kind, type));
    }

    public int array(int type, int n) throws IllegalArgumentException, IllegalStateException {
        nodes.dropDrafts();
        return nodes.keepDrafts(nodes.addArray(type, n));
    }

    public int function(int gives, int a, int b, int c) throws IllegalArgumentException, IllegalStateException {
        nodes.dropDrafts();
        return nodes.keepDrafts(nodes.addFunction(gives, a, b, c));
    }

    public int literal(int builtin, int value) throws IllegalArgumentException, IllegalStateException {
        nodes.dropDrafts();
        return nodes.keepDrafts(nodes.addLiteral(builtin, value));
    }

    public int entity(int scoped, int gives, int a, int b, int c)
            throws IllegalArgumentException, IllegalStateException {
        nodes.dropDrafts();
        return nodes.keepDrafts(nodes.addEntity(scoped, gives, a, b, c));
    }

    public int of(int node, int w) {
        nodes.dropDrafts();
        return nodes.cell(node, w);
    }

    public int write(int entity) throws IllegalArgumentException, UnsupportedOperationException {
        nodes.dropDrafts();
        if (nodes.kindOf(entity) != ENTITY) {
            throw new IllegalArgumentException("no such ENTITY");
        }
        writer.putEntity(entity);
        text.take(writer.letters);
        table.take(writer.told);
        return text.size();
    }

    public boolean type(long part) {
        int before = text.size();
        for (int shift = 56; shift >= 0; shift -= 8) {
            int letter = (int) (part >>> shift) & 255;
            if (letter != 0 && !(isTypeable(letter) && text.add(letter))) {
                text.cut(before);
                return false;
            }
        }
        return true;
    }

    public void wipe() {
        text.cut(0);
    }

    public int text(int i) {
        return text.at(i);
    }

    public int read() throws IllegalArgumentException, IllegalStateException {
        nodes.dropDrafts();
        int entity = nodes.keepDrafts(reader.readEntity());
        table.take(reader.told);
        return entity;
    }

    public int table(int i) {
        return table.at(i);
    }

    public int look(int which) {
        switch (which) {
            case 0:
                return nodes.kept();
            case 1:
                return text.size();
            case 2:
                return table.size();
            default:
                return NONE;
        }
    }

    private static boolean isTypeable(int letter) {
        return letter >= 33 && letter <= 126;
    }

    private static boolean isSmallLetter(int letter) {
        return letter >= 'a' && letter <= 'z';
    }

    /** How many bytes the ID takes: 4, which no ID has, if its highest byte is not 0. */
    private static int lengthOfId(int id) {
        int length = 1;
        while (length < 4 && id >>> 8 * length != 0) {
            length++;
        }
        return length;
    }

    private static boolean isId(int id) {
        int length = lengthOfId(id);
        if (length > LONGEST_ID) {
            return false;
        }
        for (int i = 0; i < length; i++) {
            if (!isSmallLetter(id >>> 8 * i & 255)) {
                return false;
            }
        }
        return true;
    }

    /** The k of the BUILTIN with this letter, NONE if no BUILTIN has it. */
    private static int builtinOfLetter(int letter) {
        for (int k = 0; k < BUILTIN_LETTERS.length(); k++) {
            if (BUILTIN_LETTERS.charAt(k) == letter) {
                return k;
            }
        }
        return NONE;
    }

    /** A row of numbers: a text's characters or a TABLE's nodes, neither of which can be more than 120. */
    private static final class Row {
        private final int[] items = new int[MOST_CHARACTERS];
        private int size;

        int size() {
            return size;
        }

        int at(int i) {
            return i >= 0 && i < size ? items[i] : NONE;
        }

        boolean add(int item) {
            if (size >= MOST_CHARACTERS) {
                return false;
            }
            items[size] = item;
            size++;
            return true;
        }

        void cut(int length) {
            size = Math.max(0, Math.min(size, length));
        }

        void take(Row other) {
            System.arraycopy(other.items, 0, items, 0, MOST_CHARACTERS);
            size = other.size;
        }

        /** Where the item first stands, NONE if it does not. */
        int find(int item) {
            for (int i = 0; i < size; i++) {
                if (items[i] == item) {
                    return i;
                }
            }
            return NONE;
        }
    }

    /**
     * The nodes. What a call makes are drafts behind those that are kept, and they are kept only when the whole call
     * is known to be right: so a call that throws changes nothing.
     */
    private static final class Nodes {
        // Each node that a text tells takes a character of its own, so a reading drafts no more than these.
        private static final int MOST_DRAFTED = MOST_NODES + MOST_CHARACTERS;

        private final int[] cells = new int[MOST_DRAFTED * CELLS];
        private int kept;
        private int drafted;

        int kept() {
            return kept;
        }

        void dropDrafts() {
            drafted = kept;
        }

        int keepDrafts(int answer) {
            if (drafted > MOST_NODES) {
                throw new IllegalStateException("more than 60 nodes");
            }
            kept = drafted;
            return answer;
        }

        int cell(int node, int w) {
            if (node < 0 || node >= drafted || w < 0 || w >= CELLS) {
                return NONE;
            }
            return cells[node * CELLS + w];
        }

        int kindOf(int node) {
            return node >= 0 && node < drafted ? cells[node * CELLS + KIND] : NONE;
        }

        int addBuiltin(int k) {
            if (k < 0 || k >= BUILTIN_LETTERS.length()) {
                throw new IllegalArgumentException("no such BUILTIN");
            }
            return add(BUILTIN, k, NONE, NONE, NONE, NONE, NONE);
        }

        int addName(int id) {
            needId(id);
            return add(NAME, id, NONE, NONE, NONE, NONE, NONE);
        }

        int addMember(int prefix, int id) {
            needPrefix(prefix);
            needId(id);
            return add(MEMBER, id, prefix, NONE, NONE, NONE, NONE);
        }

        int addFilled(int filled, int a, int b, int c) {
            int kind = kindOf(filled);
            if (kind != NAME && kind != MEMBER) {
                throw new IllegalArgumentException("no NAME or MEMBER to fill");
            }
            boolean known = isArgumentOrNone(a) && isArgumentOrNone(b) && isArgumentOrNone(c);
            if (a == NONE || !known || hasGap(a, b, c)) {
                throw new IllegalArgumentException("no such arguments");
            }
            return add(FILLED, 0, filled, NONE, a, b, c);
        }

        int addWrapped(int kind, int inner) {
            if (kind != POINTER && kind != REFERENCE && kind != CONST) {
                throw new IllegalArgumentException("neither POINTER, REFERENCE nor CONST");
            }
            needType(inner);
            if (kind == CONST && kindOf(inner) == CONST) {
                throw new IllegalArgumentException("CONST of CONST");
            }
            return add(kind, 0, inner, NONE, NONE, NONE, NONE);
        }

        int addArray(int inner, int length) {
            needType(inner);
            if (length < 1 || length > GREATEST_LENGTH) {
                throw new IllegalArgumentException("an ARRAY's number is 1 .. 999");
            }
            return add(ARRAY, length, inner, NONE, NONE, NONE, NONE);
        }

        int addFunction(int gives, int a, int b, int c) {
            needType(gives);
            needParameters(a, b, c);
            return add(FUNCTION, 0, gives, NONE, a, b, c);
        }

        int addLiteral(int builtin, int value) {
            if (kindOf(builtin) != BUILTIN || cell(builtin, VALUE) == VOID) {
                throw new IllegalArgumentException("no BUILTIN other than v");
            }
            if (value < -GREATEST_LITERAL || value > GREATEST_LITERAL) {
                throw new IllegalArgumentException("a LITERAL's number is -999999 .. 999999");
            }
            return add(LITERAL, value, builtin, NONE, NONE, NONE, NONE);
        }

        int addEntity(int scoped, int gives, int a, int b, int c) {
            needPrefix(scoped);
            if (kindOf(scoped) == FILLED) {
                needType(gives);
            } else if (gives != NONE) {
                throw new IllegalArgumentException("only a FILLED one gives a type");
            }
            needParameters(a, b, c);
            return add(ENTITY, 0, scoped, gives, a, b, c);
        }

        private static void needId(int id) {
            if (!isId(id)) {
                throw new IllegalArgumentException("an ID is one to three letters");
            }
        }

        private void needPrefix(int node) {
            int kind = kindOf(node);
            if (kind < NAME || kind > FILLED) {
                throw new IllegalArgumentException("no NAME, MEMBER or FILLED");
            }
        }

        private void needType(int node) {
            if (!isType(node)) {
                throw new IllegalArgumentException("no such type");
            }
        }

        private void needParameters(int a, int b, int c) {
            boolean known = isParameterOrNone(a) && isParameterOrNone(b) && isParameterOrNone(c);
            if (!known || hasGap(a, b, c)) {
                throw new IllegalArgumentException("no such parameters");
            }
        }

        private boolean isType(int node) {
            int kind = kindOf(node);
            return kind >= BUILTIN && kind <= FUNCTION;
        }

        private boolean isArgumentOrNone(int node) {
            return node == NONE || isType(node) || kindOf(node) == LITERAL;
        }

        private boolean isParameterOrNone(int node) {
            int kind = kindOf(node);
            if (kind == BUILTIN) {
                return cell(node, VALUE) != VOID;
            }
            return node == NONE || kind > BUILTIN && kind <= FUNCTION;
        }

        private static boolean hasGap(int a, int b, int c) {
            return a == NONE && b != NONE || b == NONE && c != NONE;
        }

        /** The node with these cells, drafted if it is not there. */
        private int add(int kind, int value, int first, int gives, int a, int b, int c) {
            int deepest = Math.max(depthOf(first), depthOf(gives));
            deepest = Math.max(deepest, Math.max(depthOf(a), Math.max(depthOf(b), depthOf(c))));
            if (deepest >= MOST_DEPTH) {
                throw new IllegalArgumentException("too deep");
            }
            if (drafted >= MOST_DRAFTED) {
                throw new IllegalStateException("more nodes than a text can tell");
            }
            int start = drafted * CELLS;
            cells[start + KIND] = kind;
            cells[start + VALUE] = value;
            cells[start + FIRST] = first;
            cells[start + GIVES] = gives;
            cells[start + PART_A] = a;
            cells[start + PART_B] = b;
            cells[start + PART_C] = c;
            cells[start + DEPTH] = deepest + 1;
            for (int node = 0; node < drafted; node++) {
                if (areAlike(node * CELLS, start)) {
                    return node;
                }
            }
            drafted++;
            return drafted - 1;
        }

        private int depthOf(int node) {
            return Math.max(0, cell(node, DEPTH));
        }

        private boolean areAlike(int start, int other) {
            for (int w = 0; w < CELLS; w++) {
                if (cells[start + w] != cells[other + w]) {
                    return false;
                }
            }
            return true;
        }
    }

    /** Writes an entity into rows of its own, so that a text that grows too long changes nothing. */
    private static final class Writer {
        private static final String WRAPPING_LETTERS = "PRK";

        final Row letters = new Row();
        final Row told = new Row();
        private final Nodes nodes;

        Writer(Nodes nodes) {
            this.nodes = nodes;
        }

        void putEntity(int entity) {
            letters.cut(0);
            told.cut(0);
            put('_');
            put('Z');
            putUntold(nodes.cell(entity, FIRST), 1);
            int gives = nodes.cell(entity, GIVES);
            if (gives != NONE) {
                putType(gives, 1);
            }
            putParameters(entity, 1);
        }

        private void put(int letter) {
            if (!letters.add(letter)) {
                throw new UnsupportedOperationException("more than 120 characters");
            }
        }

        private void putType(int node, int level) {
            if (nodes.kindOf(node) == BUILTIN) {
                putBuiltin(node);
            } else if (!putTold(node)) {
                putUntold(node, level);
                told.add(node);
            }
        }

        private void putPrefix(int node, int level) {
            if (putTold(node)) {
                return;
            }
            needLevel(level);
            int first = nodes.cell(node, FIRST);
            switch (nodes.kindOf(node)) {
                case MEMBER:
                    putPrefix(first, level + 1);
                    putId(node);
                    break;
                case FILLED:
                    putPrefix(first, level + 1);
                    putArguments(node, level + 1);
                    break;
                default:
                    putId(node);
                    break;
            }
            told.add(node);
        }

        /** A type that the table does not have; whether it comes into the table is the caller's to say. */
        private void putUntold(int node, int level) {
            needLevel(level);
            int first = nodes.cell(node, FIRST);
            switch (nodes.kindOf(node)) {
                case MEMBER:
                    put('N');
                    putPrefix(first, level + 1);
                    putId(node);
                    put('E');
                    break;
                case FILLED:
                    putFilled(node, level);
                    break;
                case POINTER:
                case REFERENCE:
                case CONST:
                    putWrapping(nodes.kindOf(node));
                    putType(first, level + 1);
                    break;
                case ARRAY:
                    put('A');
                    putDecimal(nodes.cell(node, VALUE));
                    put('_');
                    putType(first, level + 1);
                    break;
                case FUNCTION:
                    put('F');
                    putType(first, level + 1);
                    putParameters(node, level + 1);
                    put('E');
                    break;
                default:
                    putId(node);
                    break;
            }
        }

        /** No node is deeper, so this never throws; it makes the end of the recursion plain. */
        private static void needLevel(int level) {
            if (level > MOST_DEPTH) {
                throw new UnsupportedOperationException("deeper than any node");
            }
        }

        private void putFilled(int node, int level) {
            int filled = nodes.cell(node, FIRST);
            boolean scoped = nodes.kindOf(filled) == MEMBER;
            if (scoped) {
                put('N');
            }
            putPrefix(filled, level + 1);
            putArguments(node, level + 1);
            if (scoped) {
                put('E');
            }
        }

        private void putArguments(int node, int level) {
            put('I');
            for (int w = PART_A; w <= PART_C; w++) {
                int argument = nodes.cell(node, w);
                if (nodes.kindOf(argument) == LITERAL) {
                    putLiteral(argument);
                } else if (argument != NONE) {
                    putType(argument, level);
                }
            }
            put('E');
        }

        private void putParameters(int node, int level) {
            if (nodes.cell(node, PART_A) == NONE) {
                put('v');
            }
            for (int w = PART_A; w <= PART_C; w++) {
                int parameter = nodes.cell(node, w);
                if (parameter != NONE) {
                    putType(parameter, level);
                }
            }
        }

        private void putLiteral(int node) {
            int value = nodes.cell(node, VALUE);
            put('L');
            putBuiltin(nodes.cell(node, FIRST));
            if (value < 0) {
                put('n');
            }
            putDecimal(Math.abs(value));
            put('E');
        }

        private void putBuiltin(int node) {
            int k = nodes.cell(node, VALUE);
            if (k >= 0 && k < BUILTIN_LETTERS.length()) {
                put(BUILTIN_LETTERS.charAt(k));
            }
        }

        private void putWrapping(int kind) {
            int i = kind - POINTER;
            if (i >= 0 && i < WRAPPING_LETTERS.length()) {
                put(WRAPPING_LETTERS.charAt(i));
            }
        }

        private void putId(int node) {
            int id = nodes.cell(node, VALUE);
            int length = lengthOfId(id);
            put('0' + length);
            for (int i = length - 1; i >= 0; i--) {
                put(id >>> 8 * i & 255);
            }
        }

        private void putDecimal(int number) {
            for (int unit = 100000; unit >= 1; unit /= 10) {
                if (unit == 1 || number >= unit) {
                    put('0' + number / unit % 10);
                }
            }
        }

        /** Tells the node by its number, if the table has it. */
        private boolean putTold(int node) {
            int number = told.find(node);
            if (number == NONE) {
                return false;
            }
            put('S');
            if (number > 36) {
                putBase36Digit((number - 1) / 36);
            }
            if (number > 0) {
                putBase36Digit((number - 1) % 36);
            }
            put('_');
            return true;
        }

        private void putBase36Digit(int digit) {
            put(digit < 10 ? '0' + digit : 'A' + digit - 10);
        }
    }

    /** Reads the text from its first character on; what it makes are drafts, and its table is its own. */
    private static final class Reader {
        // As many digits as the greatest number of its sort has: one digit more can only be wrong.
        private static final int DIGITS_OF_ID_LENGTH = 1;
        private static final int DIGITS_OF_ARRAY = 3;
        private static final int DIGITS_OF_LITERAL = 6;
        private static final int DIGITS_OF_TOLD = 2;

        final Row told = new Row();
        private final Nodes nodes;
        private final Row letters;
        private int place;

        Reader(Nodes nodes, Row letters) {
            this.nodes = nodes;
            this.letters = letters;
        }

        int readEntity() {
            place = 0;
            told.cut(0);
            pass('_');
            pass('Z');
            int scoped = readScoped(1);
            int gives = nodes.kindOf(scoped) == FILLED ? readType(1) : NONE;
            int a = readFirstParameter(1);
            int b = readNextParameter(a, NONE, 1);
            int c = readNextParameter(b, NONE, 1);
            need(next() == NONE);
            return nodes.addEntity(scoped, gives, a, b, c);
        }

        private static void need(boolean right) {
            if (!right) {
                throw new IllegalArgumentException("the text is not right");
            }
        }

        private int next() {
            return letters.at(place);
        }

        private void pass(int letter) {
            need(next() == letter);
            place++;
        }

        private int readType(int level) {
            // What nests deeper than this is too deep as a node, too.
            need(level <= MOST_DEPTH);
            int k = builtinOfLetter(next());
            if (k != NONE) {
                place++;
                return nodes.addBuiltin(k);
            }
            if (next() == 'S') {
                return readToldType(level);
            }
            int made = readUntold(level);
            told.add(made);
            return made;
        }

        private int readToldType(int level) {
            int node = readTold();
            if (next() != 'I') {
                return node;
            }
            need(nodes.kindOf(node) == NAME);
            int filled = readFilled(node, level);
            told.add(filled);
            return filled;
        }

        private int readUntold(int level) {
            switch (next()) {
                case 'P':
                    return readWrapped(POINTER, level);
                case 'R':
                    return readWrapped(REFERENCE, level);
                case 'K':
                    return readWrapped(CONST, level);
                case 'A':
                    return readArray(level);
                case 'F':
                    return readFunction(level);
                default:
                    return readScoped(level);
            }
        }

        private int readWrapped(int kind, int level) {
            place++;
            return nodes.addWrapped(kind, readType(level + 1));
        }

        private int readArray(int level) {
            pass('A');
            int length = readNumber(10, DIGITS_OF_ARRAY);
            pass('_');
            return nodes.addArray(readType(level + 1), length);
        }

        private int readFunction(int level) {
            pass('F');
            int gives = readType(level + 1);
            int a = readFirstParameter(level + 1);
            int b = readNextParameter(a, 'E', level + 1);
            int c = readNextParameter(b, 'E', level + 1);
            pass('E');
            return nodes.addFunction(gives, a, b, c);
        }

        /** NONE for the v that stands where there are no parameters. */
        private int readFirstParameter(int level) {
            if (next() == 'v') {
                place++;
                return NONE;
            }
            return readType(level);
        }

        /** NONE if the one before is the last; end is what stands behind the last. */
        private int readNextParameter(int before, int end, int level) {
            return before == NONE || next() == end ? NONE : readType(level);
        }

        /** A NAME, MEMBER or FILLED one that is not told; the whole of it does not come into the table here. */
        private int readScoped(int level) {
            if (next() == 'N') {
                return readNested(level);
            }
            int scope = nodes.addName(readId());
            if (next() != 'I') {
                return scope;
            }
            told.add(scope);
            return readFilled(scope, level);
        }

        private int readNested(int level) {
            pass('N');
            int whole = readNestedStart();
            whole = readNestedStep(whole, level);
            for (int steps = 1; steps < MOST_CHARACTERS && next() != 'E'; steps++) {
                told.add(whole);
                whole = readNestedStep(whole, level);
            }
            pass('E');
            need(nodes.kindOf(whole) == MEMBER || nodes.kindOf(nodes.cell(whole, FIRST)) == MEMBER);
            return whole;
        }

        private int readNestedStart() {
            if (next() == 'S') {
                return readTold();
            }
            int scope = nodes.addName(readId());
            told.add(scope);
            return scope;
        }

        private int readNestedStep(int whole, int level) {
            return next() == 'I' ? readFilled(whole, level) : nodes.addMember(whole, readId());
        }

        private int readFilled(int filled, int level) {
            pass('I');
            int a = readArgument(level + 1);
            int b = next() == 'E' ? NONE : readArgument(level + 1);
            int c = next() == 'E' ? NONE : readArgument(level + 1);
            pass('E');
            return nodes.addFilled(filled, a, b, c);
        }

        private int readArgument(int level) {
            return next() == 'L' ? readLiteral() : readType(level);
        }

        private int readLiteral() {
            pass('L');
            int k = builtinOfLetter(next());
            need(k != NONE);
            place++;
            int builtin = nodes.addBuiltin(k);
            boolean negative = next() == 'n';
            if (negative) {
                place++;
            }
            int number = readNumber(10, DIGITS_OF_LITERAL);
            need(!negative || number != 0);
            pass('E');
            return nodes.addLiteral(builtin, negative ? -number : number);
        }

        private int readTold() {
            pass('S');
            int number = next() == '_' ? 0 : readNumber(36, DIGITS_OF_TOLD) + 1;
            pass('_');
            int node = told.at(number);
            need(node != NONE);
            return node;
        }

        private int readId() {
            int length = readNumber(10, DIGITS_OF_ID_LENGTH);
            need(length >= 1 && length <= LONGEST_ID);
            int id = 0;
            for (int i = 0; i < length; i++) {
                need(isSmallLetter(next()));
                id = id << 8 | next();
                place++;
            }
            return id;
        }

        private int readNumber(int base, int mostDigits) {
            boolean zeroAhead = next() == '0';
            int number = 0;
            int digits = 0;
            while (digits < mostDigits && digitOf(next(), base) != NONE) {
                number = number * base + digitOf(next(), base);
                place++;
                digits++;
            }
            need(digits == 1 || digits > 1 && !zeroAhead);
            return number;
        }

        /** NONE if the letter is no digit to the base, which is 10 or 36. */
        private static int digitOf(int letter, int base) {
            if (letter >= '0' && letter <= '9') {
                return letter - '0';
            }
            return base == 36 && letter >= 'A' && letter <= 'Z' ? letter - 'A' + 10 : NONE;
        }
    }
}
