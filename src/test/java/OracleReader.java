import java.util.ArrayDeque;
import java.util.ArrayList;
import java.util.Deque;
import java.util.List;
import java.util.Map;
import java.util.Set;
import java.util.regex.Matcher;
import java.util.regex.Pattern;

/** The oracle's reading of terms: a table-driven reader with a stack of its own for faults, then the meaning. */
final class OracleReader {
    private static final Pattern TOKEN = Pattern.compile("[ \n]*(?:([a-z]+)|([0-9]+)|([^ \n])|\\z)", Pattern.DOTALL);
    private static final Set<String> FACTS = Set.of("wall", "trade", "worth", "sum", "loss", "others", "near");

    private OracleReader() { }

    /** The fault and its place; the statements, as rows of words, come into the list. */
    static int[] faultOf(String text, List<List<String>> statements) {
        Deque<String> due = new ArrayDeque<>();
        Deque<String> open = new ArrayDeque<>();
        List<String> row = new ArrayList<>();
        Matcher m = TOKEN.matcher(text);
        boolean solidBefore = false;
        int from = 0;
        while (true) {
            m.region(from, text.length());
            if (!m.lookingAt()) {
                throw new IllegalStateException("no token at " + from);
            }
            String word = m.group(1) != null ? m.group(1) : m.group(2) != null ? m.group(2) : m.group(3);
            if (word == null) {
                return due.isEmpty() ? new int[] {0, -1} : new int[] {1, text.length()};
            }
            int at = m.end() - word.length();
            boolean solid = m.group(3) == null;
            boolean glued = solid && solidBefore && at == from;
            solidBefore = solid;
            from = m.end();
            if (due.isEmpty() && statements.size() == 24) {
                return new int[] {4, at};
            }
            if (due.isEmpty()) {
                due.push("statement");
            }
            int[] fault = glued ? new int[] {1, at} : take(word, at, due, open);
            if (fault != null) {
                return fault;
            }
            row.add(word);
            if (word.equals(";")) {
                statements.add(row);
                row = new ArrayList<>();
            }
        }
    }

    /** Unfolds what is due until the word is taken, or nothing that is due can begin with it. */
    private static int[] take(String word, int at, Deque<String> due, Deque<String> open) {
        for (int guard = 0; guard < 10000; guard++) {
            String top = due.isEmpty() ? "nothing" : due.pop();
            if (top.equals("close")) {
                open.pop();
                continue;
            }
            if (top.startsWith("'")) {
                return top.equals("'" + word) ? null : new int[] {1, at};
            }
            if (top.equals("number") || top.equals("office")) {
                if (!word.matches("[0-9]+")) {
                    return new int[] {1, at};
                }
                if (word.length() > 5) {
                    return new int[] {1, at + 5};
                }
                return top.equals("office") && Integer.parseInt(word) > 8 ? new int[] {2, at} : null;
            }
            String unfolded = unfold(top, word);
            if (unfolded == null) {
                return new int[] {1, at};
            }
            String[] parts = unfolded.isEmpty() ? new String[0] : unfolded.split(" ");
            for (int i = parts.length - 1; i >= 0; i--) {
                due.push(parts[i]);
            }
            if (parts.length > 0 && parts[0].equals("open")) {
                due.pop();
                if (open.size() == 6) {
                    return new int[] {3, at};
                }
                open.push(word);
                return null;
            }
        }
        throw new IllegalStateException("no end");
    }

    /** What stands for a part of the grammar if this word comes next; "open" takes the word, 'x wants just x. */
    private static String unfold(String top, String word) {
        boolean begins = word.matches("[0-9]+") || FACTS.contains(word) || Set.of("(", "min", "max").contains(word);
        switch (top) {
            case "statement":
                return switch (word) {
                    case "cover", "void", "help" -> "'" + word + " test ';";
                    case "pay", "premium" -> "'" + word + " sum ';";
                    case "beside" -> "'beside how ';";
                    default -> null;
                };
            case "how": return Set.of("first", "parts", "after").contains(word) ? "'" + word : null;
            case "test": return "both ors";
            case "ors": return word.equals("or") ? "'or both ors" : "";
            case "both": return "fact ands";
            case "ands": return word.equals("and") ? "'and fact ands" : "";
            case "fact":
                return switch (word) {
                    case "not" -> "open fact close";
                    case "[" -> "open test '] close";
                    case "all" -> "'all";
                    case "office" -> "'office office";
                    default -> begins ? "sum sign sum" : null;
                };
            case "sign": return Set.of("<", ">", "=").contains(word) ? "'" + word : null;
            case "sum": return "product adds";
            case "adds": return Set.of("+", "-").contains(word) ? "'" + word + " product adds" : "";
            case "product": return "part times";
            case "times": return Set.of("*", "/").contains(word) ? "'" + word + " part times" : "";
            case "part":
                if (word.matches("[0-9]+")) {
                    return "number";
                }
                if (FACTS.contains(word)) {
                    return "'" + word;
                }
                if (word.equals("min") || word.equals("max")) {
                    return "'" + word + " pair";
                }
                return word.equals("(") ? "open sum ') close" : null;
            case "pair": return word.equals("(") ? "open sum ', sum ') close" : null;
            default: return null;
        }
    }

    /** The meaning of one statement that has no fault, worked out along its words. */
    static final class Value {
        private final List<String> words;
        private final Map<String, Integer> facts;
        private int at = 1;

        Value(List<String> words, Map<String, Integer> facts) {
            this.words = words;
            this.facts = facts;
        }

        private boolean next(String word) {
            if (words.get(at).equals(word)) {
                at++;
                return true;
            }
            return false;
        }

        boolean test() {
            boolean holds = both();
            while (next("or")) {
                holds = both() | holds;
            }
            return holds;
        }

        private boolean both() {
            boolean holds = fact();
            while (next("and")) {
                holds = fact() & holds;
            }
            return holds;
        }

        private boolean fact() {
            if (next("not")) {
                return !fact();
            }
            if (next("[")) {
                boolean holds = test();
                at++;
                return holds;
            }
            if (next("all")) {
                return true;
            }
            if (next("office")) {
                return facts.containsKey("office" + Integer.parseInt(words.get(at++)));
            }
            long left = sum();
            if (next("<")) {
                return left < sum();
            }
            return next(">") ? left > sum() : next("=") && left == sum();
        }

        long sum() {
            long value = product();
            while (true) {
                if (next("+")) {
                    value = held(value + product());
                } else if (next("-")) {
                    value = held(value - product());
                } else {
                    return value;
                }
            }
        }

        private long product() {
            long value = part();
            while (true) {
                if (next("*")) {
                    value = held(value * part());
                } else if (next("/")) {
                    long by = part();
                    value = by == 0 ? 0 : (long) Math.floor((double) value / by);
                } else {
                    return value;
                }
            }
        }

        private long part() {
            String word = words.get(at++);
            if (FACTS.contains(word)) {
                return facts.get(word);
            }
            if (word.equals("(")) {
                long value = sum();
                at++;
                return value;
            }
            if (word.equals("min") || word.equals("max")) {
                at++;
                long one = sum();
                at++;
                long other = sum();
                at++;
                return word.equals("min") ? Math.min(one, other) : Math.max(one, other);
            }
            return Long.parseLong(word);
        }

        private static long held(long value) {
            return Math.max(-1000000000L, Math.min(1000000000L, value));
        }
    }
}
