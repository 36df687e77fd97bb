import java.util.Random;

/** All promises: long runs of calls with set seeds, each answer held against the Model's. */
public final class OracleTest {
    private static final int RUNS = 4000;
    private static final int MOST_CALLS = 512;
    private static final int MOST_IN_A_STEP = 32;
    private static final Check check = new Check();

    private final Random random;
    private final TextMaker texts;
    private final NameWriter x = new NameWriter();
    private final Model model = new Model();
    private final int run;
    private int calls;

    private static int rightReads;
    private static int fullReads;
    private static int wrongReads;
    private static int longWrites;

    private OracleTest(int run) {
        this.run = run;
        random = new Random(run);
        texts = new TextMaker(random);
    }

    public static void main(String[] args) {
        for (int run = 0; run < RUNS; run++) {
            new OracleTest(run).play();
        }
        System.out.println(rightReads + " texts read, " + wrongReads + " refused, " + fullReads + " with too many nodes, "
            + longWrites + " too long to write");
        // Without some of each the runs would show little.
        check.same("enough of each", Math.min(Math.min(rightReads, wrongReads), Math.min(fullReads, longWrites)) > 50, true);
        check.end();
    }

    private String both(String what, Check.Call got, Check.Call due) {
        calls++;
        String answer = Check.outcome(due);
        check.same("run " + run + ", call " + calls + ": " + what + " with the text " + model.text(), Check.outcome(got), answer);
        return answer;
    }

    private void play() {
        int style = random.nextInt(3);
        if (random.nextInt(4) == 0) {
            tower();
        }
        while (calls < MOST_CALLS - MOST_IN_A_STEP) {
            if (style == 0 || style == 1 && random.nextInt(3) != 0) {
                build();
            } else {
                loadAndRead();
            }
            if (random.nextInt(4) == 0) {
                write();
            }
            // Not always: a probe must not be what clears up behind a call that threw.
            if (random.nextInt(3) != 0) {
                probe();
            }
        }
    }

    /** An entity of about as many characters as can be written. */
    private void tower() {
        both("builtin", () -> x.builtin(4), () -> model.builtin(4));
        both("name", () -> x.name(Check.id("abc")), () -> model.name(Check.id("abc")));
        int inside = 0;
        for (int n = 5 + random.nextInt(6); n > 0; n--) {
            int value = -100000 - n;
            both("literal", () -> x.literal(0, value), () -> model.literal(0, value));
            int part = inside;
            int literal = model.look(0) - 1;
            int other = random.nextInt(3) - 1;
            both("fill", () -> x.fill(1, literal, part, other), () -> model.fill(1, literal, part, other));
            inside = model.look(0) - 1;
        }
        int whole = inside;
        both("entity", () -> x.entity(1, -1, whole, -1, -1), () -> model.entity(1, -1, whole, -1, -1));
        int entity = model.look(0) - 1;
        countWrite(both("write", () -> x.write(entity), () -> model.write(entity)));
    }

    private static void countWrite(String answer) {
        if (answer.equals(Check.LONG)) {
            longWrites++;
        }
    }

    /** A node's number, now and then one that no node has. */
    private int node() {
        int count = Math.max(1, model.look(0));
        return switch (random.nextInt(30)) {
            case 0 -> -1;
            case 1 -> count + random.nextInt(3);
            case 2 -> random.nextInt();
            default -> random.nextInt(3) == 0 ? Math.max(0, count - 1 - random.nextInt(4)) : random.nextInt(count);
        };
    }

    private int nodeOrNone() {
        return random.nextInt(2) == 0 ? -1 : node();
    }

    private int id() {
        if (random.nextInt(10) == 0) {
            return random.nextInt() >>> random.nextInt(32);
        }
        return random.nextInt(3) == 0 ? ('a' + random.nextInt(3)) << 16 | Check.id("zz") : 'a' + random.nextInt(5);
    }

    private void build() {
        int a = node();
        int b = nodeOrNone();
        int c = b == -1 && random.nextInt(8) != 0 ? -1 : nodeOrNone();
        int d = node();
        int e = nodeOrNone();
        int id = id();
        int[] small = {random.nextInt(9), random.nextInt(1002), 3 + random.nextInt(5), random.nextInt(2000004) - 1000002};
        switch (random.nextInt(10)) {
            case 0 -> both("builtin " + small[0], () -> x.builtin(small[0]), () -> model.builtin(small[0]));
            case 1 -> both("name " + id, () -> x.name(id), () -> model.name(id));
            case 2 -> both("member", () -> x.member(d, id), () -> model.member(d, id));
            case 3 -> both("fill", () -> x.fill(d, a, b, c), () -> model.fill(d, a, b, c));
            case 4 -> both("array", () -> x.array(a, small[1]), () -> model.array(a, small[1]));
            case 5 -> both("function", () -> x.function(d, a, b, c), () -> model.function(d, a, b, c));
            case 6 -> both("literal", () -> x.literal(d, small[3]), () -> model.literal(d, small[3]));
            case 7, 8 -> both("entity", () -> x.entity(d, e, a, b, c), () -> model.entity(d, e, a, b, c));
            default -> both("wrap", () -> x.wrap(small[2], a), () -> model.wrap(small[2], a));
        }
    }

    private void loadAndRead() {
        x.wipe();
        model.wipe();
        calls++;
        String text = texts.next();
        for (int from = 0; from < text.length(); from += 8) {
            type(Check.part(text.substring(from, Math.min(from + 8, text.length()))));
        }
        if (random.nextInt(40) == 0) {
            type(random.nextLong());
        }
        if (random.nextInt(40) == 0) {
            type(0x5a5a5a5a5a5a5a5aL >>> random.nextInt(64));
        }
        read();
    }

    private void type(long part) {
        both("type", () -> x.type(part) ? 1 : 0, () -> model.type(part) ? 1 : 0);
    }

    private void read() {
        String answer = both("read", x::read, model::read);
        if (answer.equals(Check.BAD)) {
            wrongReads++;
        } else if (answer.equals(Check.FULL)) {
            fullReads++;
        } else {
            rightReads++;
        }
    }

    private void write() {
        int entity = node();
        for (int n = 0; n < 20 && model.of(entity, 0) != 10; n++) {
            entity = node();
        }
        int picked = entity;
        countWrite(both("write", () -> x.write(picked), () -> model.write(picked)));
        if (random.nextInt(2) == 0) {
            read();
        }
    }

    private void probe() {
        for (int which = 0; which < 3; which++) {
            int asked = which;
            both("look " + which, () -> x.look(asked), () -> model.look(asked));
        }
        for (int n = 0; n < 3; n++) {
            int node = model.look(0) - 1 - random.nextInt(model.look(0) + 1) + random.nextInt(2);
            int w = random.nextInt(8);
            both("of " + node + " " + w, () -> x.of(node, w), () -> model.of(node, w));
        }
        int i = random.nextInt(model.look(1) + 2) - 1;
        both("text " + i, () -> x.text(i), () -> model.text(i));
        int number = random.nextInt(model.look(2) + 2) - 1;
        both("table " + number, () -> x.table(number), () -> model.table(number));
    }
}
