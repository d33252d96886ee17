import java.util.ArrayDeque;
import java.util.ArrayList;
import java.util.Deque;
import java.util.List;
import java.util.Map;
import java.util.Set;

/** The two languages once more, in another way: FAULTS by a pushdown machine, values by a tree. */
final class NaiveText {
    static final class Broken extends RuntimeException {
        private static final long serialVersionUID = 1L;
    }

    interface Node {
        long get(Map<String, Integer> words);
    }

    record Clause(String verb, Node sum, Node test) { }

    record Token(String text, int at) { }

    static final Set<String> LAW_WORDS = Set.of("slot", "since", "rain", "wardens", "car", "stay", "mood");
    static final Set<String> HABIT_WORDS = Set.of("slot", "left", "stay", "more", "since", "coin", "per");

    final List<Clause> clauses = new ArrayList<>();
    private final List<Token> tokens;
    private int at;

    NaiveText(String text) {
        tokens = split(text);
        do {
            String verb = take();
            Node sum = verb.equals("spares") ? null : sum();
            Node test = null;
            if (look().equals("if")) {
                take();
                test = test();
            }
            clauses.add(new Clause(verb, sum, test));
        } while (take().equals(";"));
    }

    static List<Token> split(String text) {
        List<Token> all = new ArrayList<>();
        int i = 0;
        while (i < text.length()) {
            char c = text.charAt(i);
            int from = i++;
            if (c == ' ') {
                continue;
            }
            while (kind(c) > 0 && i < text.length() && kind(text.charAt(i)) == kind(c)) {
                i++;
            }
            all.add(new Token(text.substring(from, i), from));
        }
        all.add(new Token("", text.length()));
        return all;
    }

    private static int kind(char c) {
        return c >= 'a' && c <= 'z' ? 1 : c >= '0' && c <= '9' ? 2 : 0;
    }

    private String look() {
        return tokens.get(Math.min(at, tokens.size() - 1)).text;
    }

    private String take() {
        String s = look();
        at++;
        return s;
    }

    private Node test() {
        Node a = both();
        while (look().equals("or")) {
            take();
            Node l = a;
            Node r = both();
            a = w -> l.get(w) != 0 || r.get(w) != 0 ? 1 : 0;
        }
        return a;
    }

    private Node both() {
        Node a = plain();
        while (look().equals("and")) {
            take();
            Node l = a;
            Node r = plain();
            a = w -> l.get(w) != 0 && r.get(w) != 0 ? 1 : 0;
        }
        return a;
    }

    private Node plain() {
        if (look().equals("not")) {
            take();
            Node a = plain();
            return w -> 1 - a.get(w);
        }
        if (look().equals("(")) {
            take();
            Node a = test();
            take();
            return a;
        }
        Node l = sum();
        String sign = take();
        Node r = sum();
        return switch (sign) {
            case "<" -> w -> l.get(w) < r.get(w) ? 1 : 0;
            case ">" -> w -> l.get(w) > r.get(w) ? 1 : 0;
            default -> w -> l.get(w) == r.get(w) ? 1 : 0;
        };
    }

    private static long bound(long v) {
        if (Math.abs(v) > 1_000_000_000L) {
            throw new Broken();
        }
        return v;
    }

    private Node sum() {
        Node a = term();
        while (look().equals("+") || look().equals("-")) {
            int by = take().equals("+") ? 1 : -1;
            Node l = a;
            Node r = term();
            a = w -> bound(l.get(w) + by * r.get(w));
        }
        return a;
    }

    private Node term() {
        Node a = part();
        while (Set.of("*", "/", "%").contains(look())) {
            String sign = take();
            Node l = a;
            Node r = part();
            a = w -> {
                long x = l.get(w);
                long y = r.get(w);
                if (sign.equals("*")) {
                    return bound(x * y);
                }
                if (y == 0) {
                    throw new Broken();
                }
                long whole = Math.abs(x) / Math.abs(y) * Long.signum(x) * Long.signum(y);
                return sign.equals("/") ? whole : x - whole * y;
            };
        }
        return a;
    }

    private Node part() {
        String s = take();
        if (s.equals("[")) {
            Node a = sum();
            take();
            return a;
        }
        if (kind(s.charAt(0)) == 2) {
            long v = Long.parseLong(s);
            return w -> v;
        }
        return w -> w.get(s);
    }

    /** What the last clause with that verb that holds tells; null without. */
    Long told(String verb, Map<String, Integer> words) {
        Long last = null;
        for (Clause c : clauses) {
            if (!c.verb.equals(verb)) {
                continue;
            }
            try {
                if (c.test == null || c.test.get(words) != 0) {
                    last = c.sum == null ? 1L : c.sum.get(words);
                }
            } catch (Broken e) {
                continue;
            }
        }
        return last;
    }

    /** -1 without a fault. */
    static int fault(String text, boolean law) {
        Deque<String> in = new ArrayDeque<>();
        String mode = "start";
        int clauses = 0;
        int parts = 0;
        Set<String> words = law ? LAW_WORDS : HABIT_WORDS;
        for (Token t : split(text)) {
            String s = t.text;
            boolean end = s.isEmpty();
            String next = null;
            if (mode.equals("plain")) {
                if (s.equals("not")) {
                    continue;
                }
                if (s.equals("(")) {
                    in.push("(");
                    if (depth(in) > 8) {
                        return t.at;
                    }
                    continue;
                }
                in.push("left");
                mode = "operand";
            }
            String top = in.isEmpty() ? "none" : in.peek();
            switch (mode) {
                case "start":
                    clauses++;
                    if (clauses > 12) {
                        return t.at;
                    }
                    if (law && (s.equals("comes") || s.equals("fines")) || !law && s.equals("throw")) {
                        in.push("clause");
                        next = "operand";
                    } else if (law && s.equals("spares")) {
                        next = "spared";
                    }
                    break;
                case "spared":
                    next = s.equals("if") ? "plain" : s.equals(";") ? "start" : end ? "end" : null;
                    if (s.equals("if")) {
                        in.push("test");
                    }
                    break;
                case "operand":
                    boolean number = !end && kind(s.charAt(0)) == 2
                        && new java.math.BigInteger(s).compareTo(java.math.BigInteger.valueOf(1000)) <= 0;
                    if (number || words.contains(s)) {
                        parts++;
                        next = parts > 50 ? null : "after";
                    } else if (s.equals("[")) {
                        in.push("[");
                        next = depth(in) > 8 ? null : "operand";
                    }
                    break;
                case "after":
                    if (Set.of("+", "-", "*", "/", "%").contains(s)) {
                        next = "operand";
                    } else if (top.equals("[") && s.equals("]")) {
                        in.pop();
                        next = "after";
                    } else if (top.equals("clause") && (s.equals("if") || s.equals(";") || end)) {
                        in.pop();
                        next = s.equals("if") ? "plain" : end ? "end" : "start";
                        if (s.equals("if")) {
                            in.push("test");
                        }
                    } else if (top.equals("left") && Set.of("<", ">", "=").contains(s)) {
                        in.pop();
                        in.push("right");
                        next = "operand";
                    } else if (top.equals("right")) {
                        in.pop();
                        next = afterTest(in, s);
                    }
                    break;
                default:
                    next = afterTest(in, s);
                    break;
            }
            if (next == null) {
                return t.at;
            }
            mode = next;
        }
        return -1;
    }

    private static String afterTest(Deque<String> in, String s) {
        if (s.equals("and") || s.equals("or")) {
            return "plain";
        }
        if (in.peek().equals("(") && s.equals(")")) {
            in.pop();
            return "tested";
        }
        if (in.peek().equals("test") && (s.equals(";") || s.isEmpty())) {
            in.pop();
            return s.isEmpty() ? "end" : "start";
        }
        return null;
    }

    private static int depth(Deque<String> in) {
        int n = 0;
        for (String s : in) {
            n += s.equals("(") || s.equals("[") ? 1 : 0;
        }
        return n;
    }
}
