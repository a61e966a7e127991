import java.util.ArrayList;
import java.util.HashMap;
import java.util.List;
import java.util.Map;

/** Reads a text as the document describes it and runs it, knowing nothing of the code. */
final class TextRunner {
    final Map<String, Integer> numbers = new HashMap<>();
    final List<Integer> outs = new ArrayList<>();
    private final String text;
    private final int[] closes;
    private final Map<String, Integer> labels = new HashMap<>();
    private int at = 0;

    TextRunner(String text, int[] given) {
        this.text = text;
        this.closes = new int[text.length()];
        for (int i = 0; i < 4; i++) {
            numbers.put("abcd".substring(i, i + 1), given[i]);
        }
        List<Integer> open = new ArrayList<>();
        for (int i = 0; i < text.length(); i++) {
            if (text.charAt(i) == '{') {
                open.add(i);
            } else if (text.charAt(i) == '}') {
                closes[open.remove(open.size() - 1)] = i;
            }
        }
        if (!open.isEmpty()) {
            throw new IllegalStateException("not closed: " + text);
        }
    }

    /** True if "stop;" was come to within so many statements. */
    boolean run(int statements) {
        for (int n = 0; n < statements; n++) {
            if (comes("stop;")) {
                return true;
            }
            statement();
        }
        return false;
    }

    private void statement() {
        if (comes("out ")) {
            outs.add(expression());
            need(";");
        } else if (comes("break ")) {
            at = closes[labels.get(until(";"))] + 1;
        } else if (comes("again ")) {
            at = labels.get(until(";")) + 1;
        } else if (comes("if(")) {
            int taken = expression();
            need(")");
            if (taken == 0) {
                at = closes[at] + 1;
                need("else");
            }
            need("{");
        } else if (text.charAt(at) == 'L' || text.charAt(at) == 'B') {
            String label = until(":");
            need(label.charAt(0) == 'L' ? "loop" : "");
            labels.put(label, at);
            need("{");
        } else {
            String name = until("=");
            numbers.put(name, expression());
            need(";");
        }
    }

    private int expression() {
        if (comes("(-")) {
            return Integer.parseInt("-" + until(")"));
        }
        if (comes("(")) {
            int a = expression();
            char sign = text.charAt(at);
            at++;
            int b = expression();
            need(")");
            return switch (sign) {
                case '+' -> a + b;
                case '-' -> a - b;
                case '*' -> a * b;
                case '<' -> a < b ? 1 : 0;
                case '=' -> a == b ? 1 : 0;
                default -> throw new IllegalStateException("no sign: " + sign);
            };
        }
        int end = at;
        while (Character.isLetterOrDigit(text.charAt(end))) {
            end++;
        }
        String word = text.substring(at, end);
        at = end;
        return Character.isDigit(word.charAt(0)) ? Integer.parseInt(word) : numbers.get(word);
    }

    private boolean comes(String word) {
        if (!text.startsWith(word, at)) {
            return false;
        }
        at += word.length();
        return true;
    }

    private void need(String word) {
        if (!comes(word)) {
            throw new IllegalStateException("no " + word + " at " + at + " of " + text);
        }
    }

    private String until(String sign) {
        int end = text.indexOf(sign, at);
        String word = text.substring(at, end);
        at = end + 1;
        return word;
    }
}
