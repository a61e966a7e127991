import java.util.Collections;
import java.util.NoSuchElementException;
import java.util.function.BiConsumer;
import java.util.function.IntUnaryOperator;

/** What the tests of the document's sentences expect of a code, and the codes that they share. */
final class Expect {
    static final Class<IllegalStateException> STATE = IllegalStateException.class;
    static final Class<IllegalArgumentException> ARGUMENT = IllegalArgumentException.class;
    static final Class<UnsupportedOperationException> UNSUPPORTED = UnsupportedOperationException.class;
    static final Class<NoSuchElementException> NO_ELEMENT = NoSuchElementException.class;

    static final int LEAST = Integer.MIN_VALUE;
    static final int GREATEST = Integer.MAX_VALUE;

    /** Puts out a and adds 1 to it as long as it is less than 3; from 0 on it does eight blocks. */
    static final String COUNTING =
            "LOAD 0, PUSH 3, LESS, ZERO 11, LOAD 0, OUT, LOAD 0, PUSH 1, ADD, STORE 0, JUMP 0, STOP";
    static final String COUNTING_TEXT = "L0:loop{if((a<3)){out a;a=(a+1);again L0;}else{stop;}}";
    /** The same without an end: it puts out a number in each block. */
    static final String ENDLESS = "LOAD 0, OUT, LOAD 0, PUSH 1, ADD, STORE 0, JUMP 0";
    static final String DIAMOND =
            "LOAD 0, ZERO 5, PUSH 1, STORE 1, JUMP 7, PUSH 2, STORE 1, LOAD 1, OUT, STOP";
    static final String TANGLED =
            "LOAD 0, ZERO 4, LOAD 1, ZERO 6, PUSH 1, STORE 1, PUSH 2, STORE 2, JUMP 2";
    static final int TANGLED_PLACE = 6;

    private Expect() {}

    static void unsound(String code, int place) {
        LoopLifter x = Check.written(code);
        Check.isThrown("lift of " + code, ARGUMENT, x::lift);
        Check.same("bad of " + code, x.bad(), place);
    }

    static void tangled(String code, int place) {
        LoopLifter x = Check.written(code);
        Check.isThrown("lift of " + code, UNSUPPORTED, x::lift);
        Check.same("bad of " + code, x.bad(), place);
    }

    static void sound(String code, int blocks) {
        LoopLifter x = Check.written(code);
        Check.same("lift of " + code, x.lift(), blocks);
        Check.same("bad of " + code, x.bad(), -1);
    }

    static void text(String code, String due) {
        Check.same("text of " + code, Check.textOf(Check.code(code)), due);
    }

    /** The answers to what = 0, 1, .. */
    static void counts(String code, int... due) {
        LoopLifter x = Check.lifted(code);
        for (int what = 0; what < due.length; what++) {
            Check.same("count(" + what + ") of " + code, x.count(what), due[what]);
        }
    }

    /** The answers to what = 0, 1, .. */
    static void block(LoopLifter x, int b, int... due) {
        for (int what = 0; what < due.length; what++) {
            Check.same("block(" + b + ", " + what + ")", x.block(b, what), due[what]);
        }
    }

    /** One answer of block() for each block from 0 on. */
    static void blocks(String code, int what, int... due) {
        LoopLifter x = Check.lifted(code);
        for (int b = 0; b < due.length; b++) {
            Check.same("block(" + b + ", " + what + ") of " + code, x.block(b, what), due[b]);
        }
    }

    static void added(LoopLifter x, int op, int... numbers) {
        for (int number : numbers) {
            Check.same("add(" + op + ", " + number + ") is refused", x.add(op, number) < 0, false);
        }
    }

    static void refused(LoopLifter x, int op, int... numbers) {
        for (int number : numbers) {
            Check.same("add(" + op + ", " + number + ")", x.add(op, number), -1);
        }
    }

    /** The numbers that a run of both machines puts out, the first one first. */
    static void outs(String code, int... due) {
        eachMachine(Check.lifted(code), (x, machine) -> {
            x.run(machine, 300);
            Check.same("outs of " + code, x.outs(machine), due.length);
            for (int k = 0; k < due.length; k++) {
                Check.same("out(" + machine + ", " + k + ") of " + code, x.out(machine, k), due[due.length - 1 - k]);
            }
        });
    }

    /** The blocks that a run of both machines does when variable a is given. */
    static void done(String code, int a, int... due) {
        LoopLifter lifted = Check.lifted(code);
        lifted.give(0, a);
        eachMachine(lifted, (x, machine) -> {
            Check.same("run of " + code + " with " + a, x.run(machine, due.length), due.length);
            for (int k = 0; k < due.length; k++) {
                Check.same("done(" + machine + ", " + k + ") of " + code, x.done(machine, k), due[k]);
            }
        });
    }

    static void eachMachine(LoopLifter x, BiConsumer<LoopLifter, Integer> test) {
        test.accept(x, 0);
        test.accept(x, 1);
    }

    /**
     * All that an object answers of what was lifted, of the runs, of the code and of what is given;
     * the last calls change the object, so it is asked but once.
     */
    static String allAnswers(LoopLifter x) {
        StringBuilder all = new StringBuilder();
        addLifted(all, x);
        for (int machine = 0; machine < 2; machine++) {
            int asked = machine;
            all.append(" status ").append(x.status(machine)).append(" outs ").append(x.outs(machine));
            addAnswers(all, "done", 10, k -> x.done(asked, k));
            addAnswers(all, "value", 4, variable -> x.value(asked, variable));
            addAnswers(all, "out", 4, k -> x.out(asked, k));
        }
        addAnswers(all, "add", 1, none -> x.add(11, 0));
        addAnswers(all, "lift", 1, none -> x.lift());
        addLifted(all, x);
        addAnswers(all, "run", 1, none -> x.run(0, 0));
        addAnswers(all, "given", 4, variable -> x.value(0, variable));
        return all.toString();
    }

    private static void addLifted(StringBuilder all, LoopLifter x) {
        addAnswers(all, "count", 5, x::count);
        for (int b = 0; b < 4; b++) {
            int asked = b;
            addAnswers(all, "block " + b, 5, what -> x.block(asked, what));
        }
        addAnswers(all, "text", 60, x::text);
    }

    private static void addAnswers(StringBuilder all, String name, int upTo, IntUnaryOperator call) {
        all.append(" ").append(name);
        for (int i = 0; i < upTo; i++) {
            String answer;
            try {
                answer = "" + call.applyAsInt(i);
            } catch (RuntimeException e) {
                answer = e.getClass().getSimpleName();
            }
            all.append(" ").append(answer);
        }
    }

    /** A code so many times behind itself. */
    static String times(int n, String code) {
        return String.join(", ", Collections.nCopies(n, code));
    }
}
