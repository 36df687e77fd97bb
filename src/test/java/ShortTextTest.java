/** Promise 16: each text of a head and up to four pieces is read, or refused, as the Model does it. */
public final class ShortTextTest {
    private static final int MOST_PIECES = 4;
    private static final String[] HEADS = {"_Z", "_Z1f", "_ZN1a", "_Z1aIiE", "_Z1f1a", "_Z1fN1a1bE"};
    private static final String[] PIECES = {
        "1a", "N", "E", "I", "S_", "S0_", "S1_", "i", "v", "P", "K", "F", "A2_", "Li5E", "Lcn1E",
    };
    private static final Check check = new Check();
    private static int right;
    private static int refused;

    public static void main(String[] args) {
        for (String head : HEADS) {
            readAll(head, 0);
        }
        System.out.println(right + " texts read, " + refused + " refused");
        // Without some of each the test would show little.
        check.same("enough of each", Math.min(right, refused) > 1000, true);
        check.end();
    }

    private static void readAll(String text, int pieces) {
        readBoth(text);
        if (pieces < MOST_PIECES) {
            for (String piece : PIECES) {
                readAll(text + piece, pieces + 1);
            }
        }
    }

    private static void readBoth(String text) {
        NameWriter x = new NameWriter();
        Model model = new Model();
        for (int from = 0; from < text.length(); from += 8) {
            long part = Check.part(text.substring(from, Math.min(from + 8, text.length())));
            x.type(part);
            model.type(part);
        }
        String due = Check.outcome(model::read);
        check.same("read " + text, Check.outcome(x::read), due);
        if (due.equals(Check.BAD)) {
            refused++;
        } else {
            right++;
            sameNodes(text, x, model);
            check.answers("write what was read, " + text, model.write(Integer.parseInt(due)), () -> x.write(Integer.parseInt(due)));
            check.same("what is written, " + text, Check.textOf(x), model.text());
        }
        sameTables(text, x, model);
    }

    private static void sameNodes(String text, NameWriter x, Model model) {
        for (int node = 0; node <= model.look(0); node++) {
            for (int w = 0; w < 8; w++) {
                check.same("of(" + node + ", " + w + ") for " + text, x.of(node, w), model.of(node, w));
            }
        }
        sameTables(text, x, model);
    }

    private static void sameTables(String text, NameWriter x, Model model) {
        check.same("nodes for " + text, x.look(0), model.look(0));
        check.same("the table's size for " + text, x.look(2), model.look(2));
        for (int i = 0; i < model.look(2); i++) {
            check.same("table(" + i + ") for " + text, x.table(i), model.table(i));
        }
    }
}
