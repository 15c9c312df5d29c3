import java.util.ArrayList;
import java.util.List;

/** The model's own reading of a TEXT: one TOKEN after the other, a FAULT thrown where it is come to. */
final class ModelText {
    static final class Fault extends Exception {
        private static final long serialVersionUID = 1;
        final int number;
        final int place;

        Fault(int number, int place) {
            this.number = number;
            this.place = place;
        }
    }

    interface Sum {
        int value(Model.Head h, int off);
    }

    static final class Clause {
        final String word;
        int a;
        int b;

        Clause(String word) {
            this.word = word;
        }
    }

    final List<Clause> clauses = new ArrayList<>();
    Sum pulls;
    Sum learns;
    private final String bytes;
    private int pos;
    private int start;
    private String token;
    private boolean inPulls;

    ModelText(List<Integer> tape) throws Fault {
        StringBuilder b = new StringBuilder();
        for (int v : tape) b.append((char) v);
        bytes = b.toString();
        next();
        while (!token.isEmpty()) {
            clause();
        }
    }

    private static boolean letter(char c) {
        return "abcdefghijklmnopqrstuvwxyzABCDEFGHIJKLMNOPQRSTUVWXYZ".indexOf(c) >= 0;
    }

    private static boolean digit(char c) {
        return "0123456789".indexOf(c) >= 0;
    }

    private void next() {
        while (pos < bytes.length() && (bytes.charAt(pos) == ' ' || bytes.charAt(pos) == '\n')) pos++;
        start = pos;
        if (pos == bytes.length()) {
            token = "";
            return;
        }
        char c = bytes.charAt(pos++);
        if (letter(c)) {
            while (pos < bytes.length() && letter(bytes.charAt(pos))) pos++;
        } else if (digit(c)) {
            while (pos < bytes.length() && digit(bytes.charAt(pos))) pos++;
        } else if (bytes.startsWith("<=", start) || bytes.startsWith(">=", start)) {
            pos++;
        }
        token = bytes.substring(start, pos);
    }

    private Fault fault(int number) {
        return new Fault(number, start);
    }

    private void need(String wanted) throws Fault {
        if (!token.equals(wanted)) throw fault(1);
        next();
    }

    private boolean isNumber() {
        return !token.isEmpty() && digit(token.charAt(0));
    }

    private int number(int low, int high) throws Fault {
        if (!isNumber()) throw fault(1);
        java.math.BigInteger v = new java.math.BigInteger(token);
        if (v.bitLength() > 20 || v.intValue() < low || v.intValue() > high) throw fault(2);
        next();
        return v.intValue();
    }

    private void clause() throws Fault {
        Clause c = new Clause(token);
        if (!List.of("pulls", "learns", "wobble", "lose", "seek", "shake", "write", "day").contains(token)) throw fault(1);
        if (token.equals("pulls") && pulls != null || token.equals("learns") && learns != null) throw fault(4);
        if (clauses.size() == 24) throw fault(6);
        next();
        switch (c.word) {
            case "pulls" -> {
                inPulls = true;
                pulls = sum(0);
            }
            case "learns" -> {
                inPulls = false;
                learns = sum(0);
            }
            case "wobble" -> {
                c.a = number(0, 7);
                need("by");
                c.b = number(0, 7);
            }
            case "lose" -> c.a = number(0, 7);
            case "seek" -> c.a = number(0, 63);
            case "shake" -> c.a = number(1, 40);
            case "day" -> c.a = number(1, 60);
            default -> { }
        }
        need(";");
        clauses.add(c);
    }

    static int cap(long v) {
        return (int) Math.max(-1000000, Math.min(1000000, v));
    }

    static int bend(int far) {
        if (far < 0) return -bend(-far);
        return Model.curveOf(far > 1023 ? 1023 : far, 1);
    }

    private Sum sum(int open) throws Fault {
        Sum left = product(open);
        while (token.equals("+") || token.equals("-")) {
            Sum l = left;
            int sign = token.equals("+") ? 1 : -1;
            next();
            Sum r = product(open);
            left = (h, off) -> cap((long) l.value(h, off) + sign * r.value(h, off));
        }
        return left;
    }

    private Sum product(int open) throws Fault {
        Sum left = one(open);
        while (token.equals("*") || token.equals("/")) {
            Sum l = left;
            boolean times = token.equals("*");
            next();
            Sum r = one(open);
            left = (h, off) -> {
                long a = l.value(h, off);
                long b = r.value(h, off);
                return cap(times ? a * b : b == 0 ? 0 : a / b);
            };
        }
        return left;
    }

    private void open(int open) throws Fault {
        if (open == 8) throw fault(3);
        next();
    }

    private Sum one(int open) throws Fault {
        if (isNumber()) {
            int n = number(0, 9999);
            return (h, off) -> n;
        }
        switch (token) {
            case "(": {
                open(open);
                Sum s = sum(open + 1);
                need(")");
                return s;
            }
            case "-": {
                open(open);
                Sum s = one(open + 1);
                return (h, off) -> -s.value(h, off);
            }
            case "curve": {
                open(open);
                Sum s = one(open + 1);
                return (h, off) -> bend(s.value(h, off));
            }
            case "learnt": {
                open(open);
                Sum s = one(open + 1);
                return (h, off) -> {
                    int sector = s.value(h, off);
                    return sector < 0 || sector > 7 ? 0 : h.learnt[sector];
                };
            }
            case "if": {
                open(open);
                Sum asked = either(open + 1);
                need("then");
                Sum yes = sum(open + 1);
                need("else");
                Sum no = sum(open + 1);
                need("end");
                return (h, off) -> asked.value(h, off) == 1 ? yes.value(h, off) : no.value(h, off);
            }
            default:
                return name();
        }
    }

    private Sum name() throws Fault {
        Sum s;
        switch (token) {
            case "clock": s = (h, off) -> h.clock; break;
            case "sector": s = (h, off) -> h.clock % 8; break;
            case "speed": s = (h, off) -> h.speed; break;
            case "error": s = (h, off) -> h.error; break;
            case "target": s = (h, off) -> h.target; break;
            case "settled":
                if (!inPulls) throw fault(5);
                s = (h, off) -> h.settled;
                break;
            case "off":
                if (inPulls) throw fault(5);
                s = (h, off) -> off;
                break;
            default: throw fault(1);
        }
        next();
        return s;
    }

    private Sum either(int open) throws Fault {
        Sum left = both(open);
        while (token.equals("or")) {
            next();
            Sum l = left;
            Sum r = both(open);
            left = (h, off) -> Math.max(l.value(h, off), r.value(h, off));
        }
        return left;
    }

    private Sum both(int open) throws Fault {
        Sum left = ask(open);
        while (token.equals("and")) {
            next();
            Sum l = left;
            Sum r = ask(open);
            left = (h, off) -> Math.min(l.value(h, off), r.value(h, off));
        }
        return left;
    }

    private Sum ask(int open) throws Fault {
        if (token.equals("not")) {
            open(open);
            Sum s = ask(open + 1);
            return (h, off) -> s.value(h, off) == 0 ? 1 : 0;
        }
        Sum l = sum(open);
        String sign = token;
        if (!List.of("<", "<=", ">", ">=", "=", "#").contains(sign)) throw fault(1);
        next();
        Sum r = sum(open);
        return (h, off) -> {
            int c = Integer.compare(l.value(h, off), r.value(h, off));
            boolean so = switch (sign) {
                case "<" -> c < 0;
                case "<=" -> c <= 0;
                case ">" -> c > 0;
                case ">=" -> c >= 0;
                case "=" -> c == 0;
                default -> c != 0;
            };
            return so ? 1 : 0;
        };
    }
}
