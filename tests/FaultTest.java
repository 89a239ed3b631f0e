import java.util.ArrayList;
import java.util.HashMap;
import java.util.List;
import java.util.Map;

/** FAULT as the document says it, without a parser: a byte is one if no end makes a TEXT of what stands up to it. */
public final class FaultTest {
    private static final String NAMES = "ebmwt";
    private static final int MOST_OPEN = 5;
    private static final String[] JOINS = {"|", "&", "<=>", "+-", "*/%"};

    private static long z = 20261118;

    private static int draw(int n) {
        z = z * 6364136223846793005L + 1442695040888963407L;
        return (int) ((z >>> 33) % n);
    }

    /** Whether spans of a word are T, A, B, S, P (0 to 4) or Q (5), with so many of ! and ( open around them. */
    private static final class Spans {
        private final String word;
        private final Map<Integer, Boolean> known = new HashMap<>();

        Spans(String word) {
            this.word = word;
        }

        boolean is(int rule, int from, int to, int open) {
            int key = ((rule * 64 + from) * 64 + to) * 8 + open;
            Boolean is = known.get(key);
            if (is == null) {
                is = rule == 5 ? isQ(from, to, open) : is(rule + 1, from, to, open) || isJoined(rule, from, to, open);
                known.put(key, is);
            }
            return is;
        }

        private boolean isJoined(int rule, int from, int to, int open) {
            for (int at = from + 1; at < to - 1; at++) {
                if (JOINS[rule].indexOf(word.charAt(at)) >= 0 && is(rule == 2 ? 3 : rule, from, at, open)
                        && is(rule + 1, at + 1, to, open)) {
                    return true;
                }
            }
            return false;
        }

        private boolean isQ(int from, int to, int open) {
            String span = word.substring(from, to);
            if (span.matches("[0-9]{1,4}|[" + NAMES + "]")) {
                return true;
            }
            if (open == MOST_OPEN || span.length() < 2) {
                return false;
            }
            return span.startsWith("!") ? is(5, from + 1, to, open + 1)
                    : span.startsWith("(") && span.endsWith(")") && is(0, from + 1, to - 1, open + 1);
        }
    }

    private static boolean isText(String word) {
        return !word.isEmpty() && new Spans(word).is(0, 0, word.length(), 0);
    }

    /** What can be ended at all can be so by a number, or nothing, and what closes. */
    private static boolean goesOn(String begun) {
        for (int open = 0; open <= MOST_OPEN; open++) {
            String close = ")".repeat(open);
            if (isText(begun + close) || isText(begun + "1" + close)) {
                return true;
            }
        }
        return false;
    }

    private static int due(String word) {
        if (isText(word)) {
            return 1;
        }
        for (int i = 0; i < word.length(); i++) {
            if (!goesOn(word.substring(0, i + 1))) {
                return -10 - i;
            }
        }
        return -10 - word.length();
    }

    private static void allShort(String signs, String begun, int more, List<String> to) {
        to.add(begun);
        for (int i = 0; more > 0 && i < signs.length(); i++) {
            allShort(signs, begun + signs.charAt(i), more - 1, to);
        }
    }

    /** Signs that can mostly stand there, closed now and then. */
    private static String made() {
        StringBuilder s = new StringBuilder();
        boolean operandDue = true;
        int open = 0;
        for (int length = 5 + draw(20); length > 0; length--) {
            String from = operandDue != (draw(30) == 0) ? "ebmwt0123456789!!((((" : "|&<=>+-*/%)))))01";
            char sign = from.charAt(draw(from.length()));
            s.append(sign);
            open += sign == '(' ? 1 : sign == ')' ? -1 : 0;
            operandDue = "!(|&<=>+-*/%".indexOf(sign) >= 0;
        }
        if (draw(2) == 0) {
            s.append(operandDue ? "1" : "").append(")".repeat(Math.max(0, Math.min(open, 20))));
        }
        return s.toString();
    }

    public static void main(String[] args) {
        Due.says(0, "FAULT: the place of the first byte with which no TEXT goes on; how many there are, if it ends too early.");
        List<String> words = new ArrayList<>();
        allShort("e1!()+<&", "", 4, words);
        for (int i = 0; i < 6000; i++) {
            words.add(made());
        }
        int texts = 0;
        FoxRounds x = new FoxRounds();
        for (int i = 0; i < words.size(); i++) {
            x = i % 9 == 0 ? new FoxRounds() : x;
            int due = due(words.get(i));
            texts += due == 1 ? 1 : 0;
            Due.due("text of " + words.get(i), Due.text(x, 0, words.get(i)), due);
        }
        if (texts < 300) {
            Due.fault("only " + texts + " TEXTS among " + words.size() + " words");
        }
        Due.end();
    }
}
