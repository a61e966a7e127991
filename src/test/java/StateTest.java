import java.util.ArrayList;
import java.util.List;
import java.util.NoSuchElementException;
import java.util.Random;
import java.util.function.LongSupplier;

/** Random calls with right and wrong arguments in every state, against what the model says is due. */
final class StateTest {
    private static final int OBJECTS = 1500;
    /** So far below 512 that a code may still be written at once. */
    private static final int CALLS = 480;

    /** What is written behind a clear, so that enough codes are sound. */
    private static final String[] BEGINNINGS = {
        "",
        "LOAD 0, OUT, LOAD 0, PUSH 1, ADD, STORE 0, LOAD 0, PUSH 9, LESS, ZERO 11, JUMP 0, STOP",
        "LOAD 0, ZERO 5, LOAD 1, OUT, JUMP 9, LOAD 2, LOAD 2, STORE 2, OUT, STOP",
        "LOAD 0, ZERO 5, LOAD 1, OUT, JUMP 9, LOAD 2, PUSH 5, STORE 2, STORE 3, JUMP 0",
        "LOAD 1, ZERO 0, LOAD 2, ZERO 2, LOAD 3, ZERO 0, STOP, PUSH 3, OUT, JUMP 2",
        "LOAD 0, ZERO 4, LOAD 1, ZERO 6, PUSH 1, STORE 1, PUSH 2, STORE 2, JUMP 2"
    };

    private static int lifts = 0;
    private static int refusedLifts = 0;
    private static int goodRuns = 0;

    private final Random random;
    private final LoopLifter x = new LoopLifter();
    private final List<int[]> code = new ArrayList<>();
    private final int[] given = new int[4];
    private final Model[] runs = new Model[2];
    private final StringBuilder calls = new StringBuilder();
    private Model lifted = null;
    private String text = "";
    private int bad = -1;
    private int callsMade = 0;

    private StateTest(Random random) {
        this.random = random;
    }

    public static void main(String[] args) {
        Random random = new Random(512);
        for (int n = 0; n < OBJECTS && Check.isRight(); n++) {
            StateTest test = new StateTest(random);
            while (test.callsMade < CALLS && Check.isRight()) {
                test.call();
            }
        }
        System.out.println(lifts + " lifts, " + refusedLifts + " behind them refused, " + goodRuns + " runs");
        Check.same("enough of each", lifts > 5000 && refusedLifts > 5000 && goodRuns > 5000, true);
        Check.end();
    }

    private void call() {
        int kind = random.nextInt(24);
        int a = argument();
        int b = argument();
        switch (kind) {
            case 0 -> compare("count " + a, () -> x.count(a), () -> count(a));
            case 1, 2 -> compare("block " + a + " " + b, () -> x.block(a, b), () -> block(a, b));
            case 3 -> compare("text " + a, () -> x.text(a), () -> a >= 0 && a < text.length() ? text.charAt(a) : 0);
            case 4 -> compare("give " + a + " " + b, () -> x.give(a, b) ? 1 : 0, () -> give(a, b));
            case 5, 6, 7 -> compare("run " + a + " " + b, () -> x.run(a, b), () -> run(a, b));
            case 8 -> compare("status " + a, () -> x.status(a), () -> status(a));
            case 9 -> compare("done " + a + " " + b, () -> x.done(a, b), () -> done(a, b));
            case 10 -> compare("value " + a + " " + b, () -> x.value(a, b), () -> value(a, b));
            case 11 -> compare("outs " + a, () -> x.outs(a), () -> hasRun(a) ? runs[a].outs.size() : -1);
            case 12 -> compare("out " + a + " " + b, () -> x.out(a, b), () -> out(a, b));
            case 13, 14, 15 -> compare("lift", () -> x.lift(), this::lift);
            case 16 -> compare("bad", () -> x.bad(), () -> bad);
            case 17 -> rewriteAtTimes();
            case 18, 19 -> addPiece(a);
            default -> compareAdd(random.nextInt(3) == 0 ? 11 : random.nextInt(14) - 1, a);
        }
    }

    private int argument() {
        int kind = random.nextInt(20);
        if (kind == 0) {
            return random.nextInt();
        }
        if (kind == 1) {
            return 299 + random.nextInt(4);
        }
        return kind < 5 ? random.nextInt(40) - 2 : kind < 8 ? random.nextInt(6) - 1 : random.nextInt(2);
    }

    private void compare(String name, LongSupplier got, LongSupplier due) {
        calls.append(name).append("; ");
        callsMade++;
        String answer = answer(got);
        String dueAnswer = answer(due);
        if (!answer.equals(dueAnswer)) {
            Check.same(calls.toString(), answer, dueAnswer);
        } else {
            Check.same(name, answer, dueAnswer);
        }
    }

    private static String answer(LongSupplier call) {
        try {
            return "" + call.getAsLong();
        } catch (RuntimeException e) {
            return e.getClass().getName();
        }
    }

    private void compareAdd(int op, int x0) {
        compare("add " + op + " " + x0, () -> x.add(op, x0), () -> add(op, x0));
    }

    private void addPiece(int a) {
        compareAdd(1, Math.floorMod(a, 4));
        compareAdd(a % 3 == 0 ? 8 : 10, a % 3 == 0 ? 0 : random.nextInt(2 + code.size()));
    }

    private void rewriteAtTimes() {
        if (random.nextInt(3) == 0) {
            calls.append("clear; ");
            callsMade++;
            x.clear();
            code.clear();
            for (int[] instruction : Check.code(BEGINNINGS[random.nextInt(BEGINNINGS.length)])) {
                compareAdd(instruction[0], instruction[1]);
            }
        }
    }

    private int add(int op, int x0) {
        boolean fits = op == 0 || (op == 1 || op == 2) && x0 >= 0 && x0 <= 3;
        fits = fits || (op == 9 || op == 10) && x0 >= 0 && x0 <= 31;
        fits = fits || (op >= 3 && op <= 8 || op == 11) && x0 == 0;
        if (!fits || code.size() == 32) {
            return -1;
        }
        code.add(new int[] {op, x0});
        return code.size() - 1;
    }

    private int lift() {
        Model model = new Model(code.toArray(new int[0][]));
        refusedLifts += lifted != null ? 1 : 0;
        if (model.firstBad() >= 0) {
            bad = model.firstBad();
            throw new IllegalArgumentException();
        }
        model.findBlocks();
        if (model.tangledPlace() >= 0) {
            bad = model.tangledPlace();
            throw new UnsupportedOperationException();
        }
        refusedLifts -= lifted != null ? 1 : 0;
        lifts++;
        lifted = model;
        text = model.tree(0);
        runs[0] = null;
        runs[1] = null;
        return model.finished.size();
    }

    private void needLifted() {
        if (lifted == null) {
            throw new IllegalStateException();
        }
    }

    private int count(int what) {
        needLifted();
        return switch (what) {
            case 0 -> lifted.finished.size();
            case 1 -> (int) lifted.finished.stream().filter(lifted::isHead).count();
            case 2 -> (int) lifted.finished.stream().filter(lifted::isJoin).count();
            case 3 -> lifted.temporaries;
            case 4 -> text.length();
            default -> throw new IllegalArgumentException();
        };
    }

    private int block(int b, int what) {
        needLifted();
        if (!lifted.finished.contains(b)) {
            throw new NoSuchElementException();
        }
        return switch (what) {
            case 0 -> lifted.starts.get(b);
            case 1 -> lifted.end(b) - lifted.starts.get(b);
            case 2 -> lifted.rank(b);
            case 3 -> lifted.host(b);
            case 4 -> lifted.loops(b);
            default -> throw new IllegalArgumentException();
        };
    }

    private int give(int variable, int value) {
        if (variable < 0 || variable > 3) {
            return 0;
        }
        given[variable] = value;
        return 1;
    }

    private int run(int machine, int blocks) {
        needLifted();
        if (machine != 0 && machine != 1 || blocks < 0 || blocks > 300) {
            throw new IllegalArgumentException();
        }
        goodRuns++;
        runs[machine] = new Model(lifted.code);
        runs[machine].findBlocks();
        runs[machine].run(given, blocks);
        return runs[machine].done.size();
    }

    private boolean hasRun(int machine) {
        return (machine == 0 || machine == 1) && runs[machine] != null;
    }

    private int status(int machine) {
        if (machine != 0 && machine != 1) {
            return -1;
        }
        return !hasRun(machine) ? 0 : runs[machine].ended ? 2 : 1;
    }

    private int done(int machine, int k) {
        return hasRun(machine) && k >= 0 && k < runs[machine].done.size() ? runs[machine].done.get(k) : -1;
    }

    private int value(int machine, int variable) {
        if (!hasRun(machine) || variable < 0 || variable > 3) {
            throw new NoSuchElementException();
        }
        return runs[machine].variables[variable];
    }

    private int out(int machine, int k) {
        if (!hasRun(machine) || k < 0 || k > 19 || k >= runs[machine].outs.size()) {
            throw new NoSuchElementException();
        }
        return runs[machine].outs.get(runs[machine].outs.size() - 1 - k);
    }
}
