import java.util.ArrayList;
import java.util.List;
import java.util.Random;

/** Makes texts that are mostly right, in any of the ways in which an entity can be told. */
final class TextMaker {
    private static final String SIGNS = "_ZNEISLPRKAFvbcsijlxn0123456789ABZafz";

    private final Random random;
    private final StringBuilder made = new StringBuilder();
    private final List<Integer> told = new ArrayList<>();
    private int wish;

    TextMaker(Random random) {
        this.random = random;
    }

    String next() {
        made.setLength(0);
        told.clear();
        wish = random.nextInt(110);
        made.append("_Z");
        int kind = scoped(0);
        if (kind == 3) {
            type(1);
        }
        params(1);
        String text = random.nextInt(4) == 0 ? bent(made.toString()) : made.toString();
        return text.length() > 120 ? text.substring(0, 120) : text;
    }

    /** The text with a few signs changed, left out or put in. */
    private String bent(String text) {
        StringBuilder bent = new StringBuilder(text);
        for (int n = 1 + random.nextInt(2); n > 0; n--) {
            int place = random.nextInt(bent.length() + 1);
            String sign = String.valueOf(SIGNS.charAt(random.nextInt(SIGNS.length())));
            int end = Math.min(bent.length(), place + random.nextInt(2));
            bent.replace(place, end, random.nextInt(3) == 0 ? "" : sign);
        }
        return bent.toString();
    }

    private boolean isShort(int level) {
        return made.length() < wish && random.nextInt(16) >= level;
    }

    private void id() {
        int length = random.nextInt(8) == 0 ? 1 + random.nextInt(3) : 1;
        made.append(length);
        for (int i = 0; i < length; i++) {
            made.append((char) ('a' + random.nextInt(3)));
        }
    }

    private void number(int most) {
        made.append(random.nextInt(3) == 0 ? 1 + random.nextInt(most) : 1 + random.nextInt(2));
    }

    private int scoped(int level) {
        if (random.nextInt(3) == 0) {
            return nested(level);
        }
        id();
        if (random.nextInt(2) == 0) {
            return 1;
        }
        told.add(1);
        args(level);
        return 3;
    }

    private int nested(int level) {
        made.append('N');
        int kind = random.nextInt(2) == 0 ? tell(1, 3) : -1;
        if (kind < 0) {
            id();
            told.add(1);
            kind = 1;
        }
        boolean member = kind == 2;
        for (int steps = 0; steps == 0 || !member || random.nextInt(3) == 0; steps++) {
            if (steps > 0) {
                told.add(kind);
            }
            boolean fill = kind != 3 && random.nextInt(3) == 0;
            if (fill) {
                args(level);
                member = kind == 2;
                kind = 3;
            } else {
                id();
                member = true;
                kind = 2;
            }
        }
        made.append('E');
        return kind;
    }

    private void args(int level) {
        made.append('I');
        for (int n = 1 + random.nextInt(3) * random.nextInt(2); n > 0; n--) {
            if (random.nextInt(5) == 0) {
                made.append('L').append("bcsijlx".charAt(random.nextInt(7))).append(random.nextInt(3) == 0 ? "n" : "");
                number(999999);
                made.append('E');
            } else {
                type(level + 1);
            }
        }
        made.append('E');
    }

    private void params(int level) {
        int count = random.nextInt(4);
        made.append(count == 0 ? "v" : "");
        for (int n = 0; n < count; n++) {
            if (type(level) == 0) {
                made.setLength(made.length() - 1);
                made.append("bcsijlx".charAt(random.nextInt(7)));
            }
        }
    }

    /** Tells one of the kinds by its number: its kind, -1 (and nothing) if the table has none. */
    private int tell(int lowest, int highest) {
        for (int n = 0; n < 6 && !told.isEmpty(); n++) {
            int number = random.nextInt(told.size());
            int kind = told.get(number);
            if (kind >= lowest && kind <= highest) {
                made.append('S').append(number == 0 ? "" : Integer.toString(number - 1, 36).toUpperCase()).append('_');
                return kind;
            }
        }
        return -1;
    }

    private int type(int level) {
        if (!isShort(level)) {
            int kind = random.nextInt(2) == 0 ? tell(1, 8) : -1;
            if (kind < 0) {
                made.append("vbcsijlx".charAt(random.nextInt(8)));
                return 0;
            }
            return kind;
        }
        int kind = made(level);
        told.add(kind);
        return kind;
    }

    private int made(int level) {
        int pick = random.nextInt(9);
        if (pick < 2) {
            return scoped(level);
        }
        if (pick == 2 && tell(1, 1) == 1) {
            args(level);
            return 3;
        }
        if (pick == 3) {
            made.append('F');
            type(level + 1);
            params(level + 1);
            made.append('E');
            return 8;
        }
        if (pick == 4) {
            made.append('A');
            number(999);
            made.append('_');
            type(level + 1);
            return 7;
        }
        int wrapping = pick == 5 && made.charAt(made.length() - 1) != 'K' ? 2 : random.nextInt(2);
        made.append("PRK".charAt(wrapping));
        type(level + 1);
        return 4 + wrapping;
    }
}
