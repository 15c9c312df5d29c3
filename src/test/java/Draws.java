import java.util.Random;

/** Random arguments and TEXTS for the runs of ModelTest; always the same for the same seed. */
final class Draws {
    private static final String[] NAMES = {"clock", "sector", "speed", "error", "target"};
    private static final String[] ASKS = {"<", "<=", ">", ">=", "=", "#"};
    private static final String[] SIGNS = {"+", "-", "*", "/"};
    private static final String[] WORDS = {"pulls", "learns", "wobble", "lose", "seek", "shake", "write", "day", "by",
        "curve", "learnt", "if", "then", "else", "end", "not", "and", "or", "clock", "sector", "speed", "error", "target",
        "settled", "off", "<=", ">=", "<", ">", "=", "#", "+", "-", "*", "/", "(", ")", ";", "7", "60", "10000", "!",
        "Pulls", "pull", "\t", "0", "40", "off9", "\u00ff"};
    final Random random;

    Draws(long seed) {
        random = new Random(seed);
    }

    int upTo(int n) {
        return random.nextInt(n + 1);
    }

    String of(String... all) {
        return all[random.nextInt(all.length)];
    }

    /** Mostly inside the bounds, now and then at or beyond them. */
    int near(int low, int high) {
        int kind = random.nextInt(12);
        if (kind == 0) return low - 1;
        if (kind == 1) return high + 1;
        if (kind == 2) return low;
        if (kind == 3) return high;
        if (kind == 4 && random.nextInt(8) == 0) return random.nextBoolean() ? Integer.MIN_VALUE : Integer.MAX_VALUE;
        return low + random.nextInt(high - low + 1);
    }

    private String blank() {
        int n = random.nextInt(12);
        return n == 0 ? "  " : n == 1 ? "\n" : " ";
    }

    private String maybeBlank() {
        return random.nextInt(6) == 0 ? blank() : "";
    }

    String sum(int depth, boolean pulls) {
        StringBuilder b = new StringBuilder(one(depth, pulls));
        while (random.nextInt(3) == 0) {
            b.append(maybeBlank()).append(of(SIGNS)).append(maybeBlank()).append(one(depth, pulls));
        }
        return b.toString();
    }

    private String one(int depth, boolean pulls) {
        int kind = random.nextInt(depth > 0 ? 10 : 4);
        switch (kind) {
            case 0: return Integer.toString(random.nextInt(random.nextBoolean() ? 20 : 10000));
            case 1: case 2: return of(NAMES);
            case 3: return pulls ? "settled" : "off";
            case 4: return "(" + sum(depth - 1, pulls) + ")";
            case 5: return "-" + maybeBlank() + one(depth - 1, pulls);
            case 6: return "curve " + one(depth - 1, pulls);
            case 7: return "learnt " + one(depth - 1, pulls);
            default: return "if " + either(depth - 1, pulls) + " then " + sum(depth - 1, pulls) + " else "
                    + sum(depth - 1, pulls) + " end";
        }
    }

    private String either(int depth, boolean pulls) {
        StringBuilder b = new StringBuilder(ask(depth, pulls));
        while (random.nextInt(3) == 0) {
            b.append(random.nextBoolean() ? " or " : " and ").append(ask(depth, pulls));
        }
        return b.toString();
    }

    private String ask(int depth, boolean pulls) {
        if (depth > 0 && random.nextInt(4) == 0) return "not " + ask(depth - 1, pulls);
        return sum(depth, pulls) + of(ASKS) + sum(depth, pulls);
    }

    String clause() {
        switch (random.nextInt(9)) {
            case 0: return "wobble " + upTo(7) + " by " + upTo(7) + ";";
            case 1: return "lose " + upTo(7) + ";";
            case 2: case 3: return "seek " + upTo(63) + ";";
            case 4: return "shake " + (1 + upTo(39)) + ";";
            case 5: return "write;";
            default: return "day " + (1 + upTo(random.nextInt(4) == 0 ? 59 : 9)) + ";";
        }
    }

    String text() {
        StringBuilder b = new StringBuilder();
        int at = random.nextInt(4);
        int clauses = random.nextInt(random.nextInt(5) == 0 ? 27 : 8);
        int depth = 1 + random.nextInt(random.nextInt(4) == 0 ? 9 : 3);
        for (int i = 0; i <= clauses; i++) {
            if (i == at && random.nextInt(4) != 0) b.append("pulls ").append(law(depth, true)).append(';').append(maybeBlank());
            if (i == at + 1 && random.nextInt(2) != 0) b.append("learns ").append(law(depth, false)).append(';');
            b.append(clause()).append(maybeBlank());
        }
        if (random.nextInt(3) == 0) spoil(b);
        if (b.length() > 300) b.setLength(300);
        return b.toString();
    }

    /** A law that does something sensible more often than not. */
    private String law(int depth, boolean pulls) {
        int kind = random.nextInt(4);
        if (pulls && kind == 0) return "curve(0-error)-speed+" + one(depth, true);
        if (!pulls && kind == 0) return "8-off/5";
        if (!pulls && kind == 1) return "" + upTo(17);
        return sum(depth, pulls);
    }

    private void spoil(StringBuilder b) {
        int times = 1 + random.nextInt(2);
        for (int i = 0; i < times; i++) {
            int at = random.nextInt(b.length() + 1);
            switch (random.nextInt(4)) {
                case 0: b.insert(at, " " + of(WORDS) + " "); break;
                case 1: b.delete(at, Math.min(b.length(), at + 1 + random.nextInt(4))); break;
                case 2: b.insert(at, (char) random.nextInt(256)); break;
                default:
                    int space = b.indexOf(" ", at);
                    if (space >= 0) b.insert(space, " " + of(WORDS));
                    break;
            }
        }
    }

    /** TOKENS and bytes in any order. */
    String noise() {
        StringBuilder b = new StringBuilder(of("", "pulls ", "learns ", "day 1;", "pulls if "));
        int n = random.nextInt(90);
        for (int i = 0; i < n; i++) {
            if (random.nextInt(30) == 0) b.append((char) random.nextInt(256));
            else b.append(of(WORDS)).append(of("", " "));
        }
        if (b.length() > 300) b.setLength(300);
        return b.toString();
    }

    /** Openers in rows, around the depth at which they are refused. */
    String deep() {
        StringBuilder b = new StringBuilder(random.nextBoolean() ? "pulls " : "learns ");
        int n = 6 + random.nextInt(5);
        StringBuilder tail = new StringBuilder();
        boolean asks = false;
        for (int i = 0; i < n; i++) {
            if (asks && random.nextInt(3) == 0) {
                b.append("not ");
                continue;
            }
            String close = asks ? "<1 then 2 else error end" : "";
            asks = false;
            switch (random.nextInt(5)) {
                case 0: b.append('('); tail.insert(0, ")" + close); break;
                case 1: b.append("curve "); tail.insert(0, close); break;
                case 2: b.append("learnt "); tail.insert(0, close); break;
                case 3: b.append("- "); tail.insert(0, close); break;
                default: b.append("if "); tail.insert(0, close); asks = true; break;
            }
        }
        b.append('3');
        if (asks) b.append("<1 then 2 else error end");
        b.append(tail).append(';');
        if (b.length() > 300) b.setLength(300);
        return b.toString();
    }
}
