import java.util.ArrayDeque;
import java.util.ArrayList;
import java.util.Deque;
import java.util.List;
import java.util.TreeSet;

/** A second reading of the document, as slow and as close to its words as can be. */
final class Model {
    static final int JUMP = 9;
    static final int ZERO = 10;
    static final int STOP = 11;

    final int[][] code;
    final List<Integer> starts = new ArrayList<>();
    final List<Integer> finished = new ArrayList<>();
    final List<Integer> done = new ArrayList<>();
    final List<Integer> outs = new ArrayList<>();
    final int[] variables = new int[4];
    boolean ended = false;
    int temporaries = 0;

    Model(int[][] code) {
        this.code = code;
    }

    private boolean isNamed(int place) {
        for (int[] instruction : code) {
            if ((instruction[0] == JUMP || instruction[0] == ZERO) && instruction[1] == place) {
                return true;
            }
        }
        return false;
    }

    private static int taken(int op) {
        return op >= 3 && op <= 7 ? 2 : op == 2 || op == 8 || op == ZERO ? 1 : 0;
    }

    int firstBad() {
        int height = 0;
        for (int place = 0; place < code.length; place++) {
            int op = code[place][0];
            boolean leaves = op >= JUMP;
            int left = height - taken(op);
            int then = left + (op <= 1 || op >= 3 && op <= 7 ? 1 : 0);
            boolean bad = isNamed(place) && height != 0;
            bad = bad || left < 0;
            bad = bad || then > 6;
            bad = bad || leaves && left != 0;
            bad = bad || (op == JUMP || op == ZERO) && code[place][1] >= code.length;
            bad = bad || place == code.length - 1 && op != JUMP && op != STOP;
            if (bad) {
                return place;
            }
            height = leaves ? 0 : then;
        }
        return code.length == 0 ? 0 : -1;
    }

    void findBlocks() {
        TreeSet<Integer> begins = new TreeSet<>();
        begins.add(0);
        for (int place = 0; place < code.length; place++) {
            if (isNamed(place)) {
                begins.add(place);
            }
            if (code[place][0] >= JUMP && place + 1 < code.length) {
                begins.add(place + 1);
            }
        }
        starts.addAll(begins);
        goInto(0, new ArrayList<>());
    }

    private void goInto(int b, List<Integer> gone) {
        gone.add(b);
        for (int c : edges(b)) {
            if (!gone.contains(c)) {
                goInto(c, gone);
            }
        }
        finished.add(b);
    }

    int end(int b) {
        return b + 1 < starts.size() ? starts.get(b + 1) : code.length;
    }

    List<Integer> edges(int b) {
        int[] last = code[end(b) - 1];
        List<Integer> targets = new ArrayList<>();
        if (last[0] != JUMP && last[0] != STOP) {
            targets.add(b + 1);
        }
        if (last[0] == JUMP || last[0] == ZERO) {
            targets.add(starts.indexOf(last[1]));
        }
        return targets;
    }

    int rank(int b) {
        return finished.contains(b) ? finished.size() - 1 - finished.indexOf(b) : -1;
    }

    private boolean goesBack(int from, int to) {
        return rank(to) <= rank(from);
    }

    boolean dominates(int d, int b) {
        if (d == b || d == 0) {
            return true;
        }
        List<Integer> reached = new ArrayList<>();
        Deque<Integer> open = new ArrayDeque<>();
        open.add(0);
        while (!open.isEmpty()) {
            int c = open.remove();
            if (c != d && !reached.contains(c)) {
                reached.add(c);
                open.addAll(edges(c));
            }
        }
        return !reached.contains(b);
    }

    int tangledPlace() {
        for (int rank = 0; rank < finished.size(); rank++) {
            int b = finished.get(finished.size() - 1 - rank);
            for (int c : edges(b)) {
                if (goesBack(b, c) && !dominates(c, b)) {
                    return starts.get(b);
                }
            }
        }
        return -1;
    }

    int host(int b) {
        int host = -1;
        for (int d : finished) {
            if (d != b && dominates(d, b) && (host < 0 || rank(d) > rank(host))) {
                host = d;
            }
        }
        return host;
    }

    private int edgesInto(int b, boolean back) {
        int edges = 0;
        for (int from : finished) {
            for (int c : edges(from)) {
                edges += c == b && goesBack(from, b) == back ? 1 : 0;
            }
        }
        return edges;
    }

    boolean isHead(int b) {
        return edgesInto(b, true) > 0;
    }

    boolean isJoin(int b) {
        return edgesInto(b, false) > 1;
    }

    int loops(int b) {
        int loops = 0;
        for (int d : finished) {
            loops += isHead(d) && dominates(d, b) ? 1 : 0;
        }
        return loops;
    }

    String tree(int b) {
        String inner = body(b);
        for (int rank = 0; rank < finished.size(); rank++) {
            int join = finished.get(finished.size() - 1 - rank);
            if (isJoin(join) && host(join) == b) {
                inner = "B" + join + ":{" + inner + "}" + tree(join);
            }
        }
        return isHead(b) ? "L" + b + ":loop{" + inner + "}" : inner;
    }

    private String going(int from, int to) {
        if (goesBack(from, to)) {
            return "again L" + to + ";";
        }
        return isJoin(to) ? "break B" + to + ";" : tree(to);
    }

    private String body(int b) {
        StringBuilder written = new StringBuilder();
        List<String> stack = new ArrayList<>();
        int number = 0;
        for (int place = starts.get(b); place < end(b); place++) {
            int op = code[place][0];
            int x = code[place][1];
            String right = taken(op) > 0 ? stack.remove(stack.size() - 1) : "";
            String left = taken(op) > 1 ? stack.remove(stack.size() - 1) : "";
            if (op == 0) {
                stack.add(x < 0 ? "(" + x + ")" : "" + x);
            } else if (op == 1) {
                stack.add("abcd".substring(x, x + 1));
            } else if (op == 2) {
                String variable = "abcd".substring(x, x + 1);
                for (int i = 0; i < stack.size(); i++) {
                    if (stack.get(i).contains(variable)) {
                        written.append("t" + number + "=" + stack.get(i) + ";");
                        stack.set(i, "t" + number);
                        number++;
                        temporaries++;
                    }
                }
                written.append(variable + "=" + right + ";");
            } else if (op <= 7) {
                stack.add("(" + left + "+-*<=".charAt(op - 3) + right + ")");
            } else if (op == 8) {
                written.append("out " + right + ";");
            } else if (op == ZERO) {
                return written + "if(" + right + "){" + going(b, b + 1) + "}else{" + going(b, edges(b).get(1)) + "}";
            } else if (op == STOP) {
                return written + "stop;";
            }
        }
        return written + going(b, edges(b).get(0));
    }

    /** Goes by places, not by edges. */
    void run(int[] given, int blocks) {
        System.arraycopy(given, 0, variables, 0, 4);
        Deque<Integer> stack = new ArrayDeque<>();
        int place = 0;
        while (done.size() < blocks && !ended) {
            int op = code[place][0];
            int x = code[place][1];
            int next = place + 1;
            int b = taken(op) > 0 ? stack.pop() : 0;
            int a = taken(op) > 1 ? stack.pop() : 0;
            switch (op) {
                case 0 -> stack.push(x);
                case 1 -> stack.push(variables[x]);
                case 2 -> variables[x] = b;
                case 3 -> stack.push(a + b);
                case 4 -> stack.push(a - b);
                case 5 -> stack.push(a * b);
                case 6 -> stack.push(a < b ? 1 : 0);
                case 7 -> stack.push(a == b ? 1 : 0);
                case 8 -> outs.add(b);
                case JUMP -> next = x;
                case ZERO -> next = b == 0 ? x : next;
                default -> ended = true;
            }
            if (op >= JUMP || starts.contains(place + 1)) {
                done.add(blockOf(place));
            }
            place = next;
        }
    }

    private int blockOf(int place) {
        int b = 0;
        while (b + 1 < starts.size() && starts.get(b + 1) <= place) {
            b++;
        }
        return b;
    }
}
