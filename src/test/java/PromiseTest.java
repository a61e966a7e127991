import java.util.NoSuchElementException;

/** The promises of the document one by one: ordinary inputs, edges, and wrong inputs. */
final class PromiseTest {
    private static final Class<IllegalStateException> STATE = IllegalStateException.class;
    private static final Class<IllegalArgumentException> ARGUMENT = IllegalArgumentException.class;
    private static final Class<UnsupportedOperationException> UNSUPPORTED = UnsupportedOperationException.class;
    private static final Class<NoSuchElementException> NO_ELEMENT = NoSuchElementException.class;

    private static final String COUNTING =
            "LOAD 0, PUSH 3, LESS, ZERO 11, LOAD 0, OUT, LOAD 0, PUSH 1, ADD, STORE 0, JUMP 0, STOP";
    private static final String TANGLED =
            "LOAD 0, ZERO 4, LOAD 1, ZERO 6, PUSH 1, STORE 1, PUSH 2, STORE 2, JUMP 2";
    private static final String DIAMOND =
            "LOAD 0, ZERO 5, PUSH 1, STORE 1, JUMP 7, PUSH 2, STORE 1, LOAD 1, OUT, STOP";

    public static void main(String[] args) {
        newObject();
        addTakesWhatIsAsSaid();
        addRefuses();
        addAtTheEnd();
        clearKeepsWhatWasLifted();
        liftCounts();
        liftRefuses();
        badPlaces();
        badOfTangledCode();
        badStays();
        counts();
        blocks();
        loopsAroundBlocks();
        blocksThatDontCount();
        texts();
        temporaries();
        textEdges();
        gives();
        runs();
        runsThatAreRefused();
        runOfEachOp();
        statuses();
        doneBlocks();
        values();
        outs();
        latestOuts();
        Check.end();
    }

    // Promise 1

    private static void newObject() {
        LoopLifter x = new LoopLifter();
        Check.same("bad of a new object", x.bad(), -1);
        Check.same("text of a new object", (int) x.text(0), 0);
        Check.isThrown("count of a new object", STATE, () -> x.count(0));
        Check.isThrown("block of a new object", STATE, () -> x.block(0, 0));
        Check.isThrown("run of a new object", STATE, () -> x.run(0, 1));
        for (int machine = 0; machine < 2; machine++) {
            Check.same("status of a new object", x.status(machine), 0);
            Check.same("done of a new object", x.done(machine, 0), -1);
            Check.same("outs of a new object", x.outs(machine), -1);
            int asked = machine;
            Check.isThrown("value of a new object", NO_ELEMENT, () -> x.value(asked, 0));
            Check.isThrown("out of a new object", NO_ELEMENT, () -> x.out(asked, 0));
        }
        Check.same("the first add", x.add(11, 0), 0);
        x.lift();
        x.run(0, 1);
        for (int variable = 0; variable < 4; variable++) {
            Check.same("what is given at first", x.value(0, variable), 0);
        }
    }

    // Promise 2

    private static void addTakesWhatIsAsSaid() {
        LoopLifter x = new LoopLifter();
        int place = 0;
        int[][] good = {
            {0, 0}, {0, Integer.MAX_VALUE}, {0, Integer.MIN_VALUE}, {1, 0}, {1, 3}, {2, 0}, {2, 3}, {3, 0},
            {4, 0}, {5, 0}, {6, 0}, {7, 0}, {8, 0}, {9, 0}, {9, 31}, {10, 0}, {10, 31}, {11, 0}
        };
        for (int[] instruction : good) {
            Check.same("add " + instruction[0], x.add(instruction[0], instruction[1]), place);
            place++;
        }
    }

    private static void addRefuses() {
        LoopLifter x = new LoopLifter();
        int[][] bad = {
            {-1, 0}, {12, 0}, {Integer.MIN_VALUE, 0}, {Integer.MAX_VALUE, 0}, {1, -1}, {1, 4}, {2, -1}, {2, 4},
            {9, -1}, {9, 32}, {10, -1}, {10, 32}
        };
        for (int[] instruction : bad) {
            Check.same("add " + instruction[0] + " " + instruction[1], x.add(instruction[0], instruction[1]), -1);
        }
        for (int op : new int[] {3, 4, 5, 6, 7, 8, 11}) {
            Check.same("add " + op + " with x", x.add(op, 1), -1);
            Check.same("add " + op + " with x", x.add(op, -1), -1);
        }
        Check.same("add behind refused ones", x.add(11, 0), 0);
    }

    private static void addAtTheEnd() {
        LoopLifter x = new LoopLifter();
        for (int place = 0; place < 32; place++) {
            Check.same("add", x.add(11, 0), place);
        }
        Check.same("add to 32", x.add(11, 0), -1);
        Check.same("lift of 32", x.lift(), 1);
        x.clear();
        Check.same("add behind clear", x.add(11, 0), 0);
    }

    // Promise 3

    private static void clearKeepsWhatWasLifted() {
        LoopLifter x = Check.lifted(COUNTING);
        x.run(0, 300);
        x.run(1, 300);
        x.clear();
        Check.same("count behind clear", x.count(0), 3);
        Check.same("text behind clear", x.text(0), 'L');
        Check.same("status behind clear", x.status(0), 2);
        Check.same("value behind clear", x.value(1, 0), 3);
        x.add(0, 5);
        x.add(8, 0);
        x.add(11, 0);
        Check.same("count behind add", x.count(0), 3);
        Check.same("out behind add", x.out(1, 0), 2);
        // Machine 0 goes on running the code that was lifted.
        Check.same("run 0 behind add", x.run(0, 300), 8);
        Check.same("run 1 behind add", x.run(1, 300), 8);
        x.clear();
        Check.isThrown("lift behind clear", ARGUMENT, x::lift);
        Check.same("bad of no code", x.bad(), 0);
    }

    // Promise 4

    private static void liftCounts() {
        LoopLifter x = Check.written(COUNTING);
        Check.same("lift", x.lift(), 3);
        x.run(0, 300);
        x.run(1, 300);
        Check.same("lift again", x.lift(), 3);
        for (int machine = 0; machine < 2; machine++) {
            int asked = machine;
            Check.same("status behind lift", x.status(machine), 0);
            Check.same("outs behind lift", x.outs(machine), -1);
            Check.same("done behind lift", x.done(machine, 0), -1);
            Check.isThrown("value behind lift", NO_ELEMENT, () -> x.value(asked, 0));
            Check.isThrown("out behind lift", NO_ELEMENT, () -> x.out(asked, 0));
        }
        Check.same("lift of another code", Check.write(x, Check.code(DIAMOND)).lift(), 4);
    }

    private static void liftRefuses() {
        LoopLifter x = Check.lifted(COUNTING);
        x.run(0, 300);
        x.run(1, 4);
        Check.write(x, Check.code("PUSH 1, STOP"));
        Check.isThrown("lift of unsound code", ARGUMENT, x::lift);
        staysAsItWas(x);
        Check.write(x, Check.code(TANGLED));
        Check.isThrown("lift of tangled code", UNSUPPORTED, x::lift);
        staysAsItWas(x);
        Check.same("a run behind refused lifts", x.run(1, 300), 8);
        // Code that is both is not sound first of all.
        LoopLifter both = Check.written(TANGLED + ", PUSH 1, STOP");
        Check.isThrown("lift of unsound and tangled code", ARGUMENT, both::lift);
        Check.same("bad of unsound and tangled code", both.bad(), 10);
    }

    private static void staysAsItWas(LoopLifter x) {
        Check.same("count behind a refused lift", x.count(0), 3);
        Check.same("count behind a refused lift", x.count(4), 54);
        Check.same("rank behind a refused lift", x.block(1, 2), 2);
        Check.same("text behind a refused lift", x.text(0), 'L');
        Check.same("status behind a refused lift", x.status(0), 2);
        Check.same("status behind a refused lift", x.status(1), 1);
        Check.same("done behind a refused lift", x.done(0, 1), 1);
        Check.same("value behind a refused lift", x.value(0, 0), 3);
    }

    // Promise 5

    private static void badPlaces() {
        unsound("", 0);
        unsound("PUSH 1", 0);
        unsound("PUSH 1, OUT", 1);
        unsound("PUSH 1, ZERO 0", 1);
        unsound("ADD, STOP", 0);
        unsound("PUSH 1, ADD, STOP", 1);
        unsound("STORE 0, STOP", 0);
        unsound("OUT, STOP", 0);
        unsound("ZERO 1, STOP", 0);
        unsound("PUSH 1, STOP", 1);
        unsound("PUSH 1, JUMP 0", 1);
        unsound("PUSH 1, PUSH 2, ZERO 3, STOP", 2);
        unsound("JUMP 1", 0);
        unsound("STOP, JUMP 31", 1);
        unsound("PUSH 1, ZERO 3, STOP", 1);
        unsound("PUSH 1, OUT, JUMP 1", 1);
        unsound("PUSH 1, PUSH 2, ADD, OUT, PUSH 0, ZERO 2, STOP", 2);
        unsound("STOP, PUSH 1, OUT, JUMP 2", 2);
        unsound("PUSH 1, PUSH 1, PUSH 1, PUSH 1, PUSH 1, PUSH 1, PUSH 1, STOP", 6);
        unsound("PUSH 1, LOAD 1, PUSH 1, LOAD 1, PUSH 1, PUSH 1, LOAD 1, STOP", 6);
        unsound("STOP, STOP, OUT, PUSH 1", 2);
        // Six are not too many, and code that can't be reached may stand behind the last STOP.
        sound("PUSH 1, PUSH 1, PUSH 1, PUSH 1, PUSH 1, PUSH 1, ADD, ADD, ADD, ADD, ADD, OUT, STOP", 1);
        sound("JUMP 0", 1);
        sound("STOP", 1);
        sound("STOP, PUSH 1, OUT, STOP", 1);
        sound("PUSH 1, ZERO 2, STOP", 2);
    }

    private static void unsound(String code, int place) {
        LoopLifter x = Check.written(code);
        Check.isThrown("lift of " + code, ARGUMENT, x::lift);
        Check.same("bad of " + code, x.bad(), place);
    }

    private static void sound(String code, int blocks) {
        LoopLifter x = Check.written(code);
        Check.same("lift of " + code, x.lift(), blocks);
        Check.same("bad of " + code, x.bad(), -1);
    }

    private static void badOfTangledCode() {
        tangled(TANGLED, 6);
        // Two loops with two ways into each: the block of least rank is not the one at the least place.
        tangled("LOAD 0, ZERO 4, LOAD 1, ZERO 6, LOAD 2, ZERO 2, LOAD 3, ZERO 4, STOP", 4);
        tangled("LOAD 0, ZERO 9, LOAD 0, ZERO 5, JUMP 8, LOAD 1, ZERO 8, JUMP 4, STOP, "
                + "LOAD 0, ZERO 13, LOAD 1, ZERO 15, LOAD 2, ZERO 11, STOP", 13);
        // A loop with two ways into it doesn't matter where there is no way to it.
        sound("STOP, LOAD 0, ZERO 5, LOAD 1, ZERO 7, PUSH 1, STORE 1, PUSH 2, STORE 2, JUMP 3", 1);
    }

    private static void tangled(String code, int place) {
        LoopLifter x = Check.written(code);
        Check.isThrown("lift of " + code, UNSUPPORTED, x::lift);
        Check.same("bad of " + code, x.bad(), place);
    }

    private static void badStays() {
        LoopLifter x = Check.written(TANGLED);
        Check.isThrown("lift", UNSUPPORTED, x::lift);
        Check.write(x, Check.code(COUNTING)).lift();
        Check.same("bad behind a lift that goes through", x.bad(), 6);
        Check.write(x, Check.code("PUSH 1, OUT"));
        Check.same("bad behind clear and add", x.bad(), 6);
        Check.isThrown("lift", ARGUMENT, x::lift);
        Check.same("bad of the latest", x.bad(), 1);
    }

    // Promise 6

    private static void counts() {
        countsAre(COUNTING, 3, 1, 0, 0, "L0:loop{if((a<3)){out a;a=(a+1);again L0;}else{stop;}}".length());
        countsAre(DIAMOND, 4, 0, 1, 0, 55);
        countsAre("STOP", 1, 0, 0, 0, 5);
        countsAre("LOAD 0, LOAD 0, PUSH 7, STORE 0, STORE 1, STORE 2, STOP", 1, 0, 0, 2, 29);
        // Temporaries are counted over all blocks that count, and only there.
        countsAre("LOAD 0, PUSH 1, STORE 0, OUT, JUMP 5, LOAD 0, PUSH 1, STORE 0, OUT, STOP, "
                + "LOAD 0, PUSH 1, STORE 0, OUT, STOP", 2, 0, 0, 2, 37);
        LoopLifter x = Check.lifted(COUNTING);
        Check.isThrown("count(-1)", ARGUMENT, () -> x.count(-1));
        Check.isThrown("count(5)", ARGUMENT, () -> x.count(5));
        LoopLifter none = new LoopLifter();
        Check.isThrown("count(5) of nothing", STATE, () -> none.count(5));
        Check.isThrown("lift of nothing", ARGUMENT, none::lift);
        Check.isThrown("count(0) behind a refused lift", STATE, () -> none.count(0));
    }

    private static void countsAre(String code, int... due) {
        LoopLifter x = Check.lifted(code);
        for (int what = 0; what < due.length; what++) {
            Check.same("count(" + what + ") of " + code, x.count(what), due[what]);
        }
    }

    // Promise 7

    private static void blocks() {
        LoopLifter x = Check.lifted(COUNTING);
        blockIs(x, 0, 0, 4, 0, -1, 1);
        blockIs(x, 1, 4, 7, 2, 0, 1);
        blockIs(x, 2, 11, 1, 1, 0, 1);
        LoopLifter diamond = Check.lifted(DIAMOND);
        blockIs(diamond, 0, 0, 2, 0, -1, 0);
        blockIs(diamond, 1, 2, 3, 2, 0, 0);
        blockIs(diamond, 2, 5, 2, 1, 0, 0);
        blockIs(diamond, 3, 7, 3, 3, 0, 0);
        Check.isThrown("block(4, 0)", NO_ELEMENT, () -> diamond.block(4, 0));
        Check.isThrown("block(-1, 0)", NO_ELEMENT, () -> diamond.block(-1, 0));
        Check.isThrown("block(32, 0)", NO_ELEMENT, () -> diamond.block(32, 0));
        Check.isThrown("block(least, 0)", NO_ELEMENT, () -> diamond.block(Integer.MIN_VALUE, 0));
        Check.isThrown("block(4, 5)", NO_ELEMENT, () -> diamond.block(4, 5));
        Check.isThrown("block(0, 5)", ARGUMENT, () -> diamond.block(0, 5));
        Check.isThrown("block(0, -1)", ARGUMENT, () -> diamond.block(0, -1));
        Check.isThrown("block(9, 9) of nothing", STATE, () -> new LoopLifter().block(9, 9));
    }

    private static void blockIs(LoopLifter x, int b, int... due) {
        for (int what = 0; what < due.length; what++) {
            Check.same("block(" + b + ", " + what + ")", x.block(b, what), due[what]);
        }
    }

    private static void loopsAroundBlocks() {
        // What comes behind the inner loop still lies in it, as text; block 4 can't be reached.
        String code = "LOAD 0, ZERO 8, LOAD 1, ZERO 6, LOAD 2, ZERO 2, JUMP 0, STOP, STOP";
        LoopLifter x = Check.lifted(code);
        Check.same("blocks that count", x.count(0), 5);
        textIs(code, "L0:loop{if(a){L1:loop{B3:{if(b){if(c){break B3;}else{again L1;}}else{break B3;}}again L0;}}"
                + "else{stop;}}");
        int[] due = {1, 2, 2, 2, -1, 1};
        for (int b = 0; b < due.length; b++) {
            if (due[b] >= 0) {
                Check.same("loops around " + b, x.block(b, 4), due[b]);
            }
        }
    }

    private static void blocksThatDontCount() {
        // Block 1 can't be reached, yet it has a number, and the place that it names begins a block.
        LoopLifter x = Check.lifted("JUMP 3, PUSH 1, ZERO 5, PUSH 2, OUT, STOP");
        Check.same("blocks that count", x.count(0), 3);
        Check.isThrown("block(1, 0)", NO_ELEMENT, () -> x.block(1, 0));
        Check.isThrown("block(1, 9)", NO_ELEMENT, () -> x.block(1, 9));
        blockIs(x, 0, 0, 1, 0, -1, 0);
        blockIs(x, 2, 3, 2, 1, 0, 0);
        blockIs(x, 3, 5, 1, 2, 2, 0);
        Check.same("joins", x.count(2), 0);
        Check.same("run", x.run(1, 300), 3);
        Check.same("done", x.done(1, 1), 2);
    }

    // Promise 8

    private static void texts() {
        textIs(COUNTING, "L0:loop{if((a<3)){out a;a=(a+1);again L0;}else{stop;}}");
        textIs(DIAMOND, "B3:{if(a){b=1;break B3;}else{b=2;break B3;}}out b;stop;");
        textIs("STOP", "stop;");
        textIs("JUMP 0", "L0:loop{again L0;}");
        textIs("JUMP 1, JUMP 0", "L0:loop{again L0;}");
        textIs("JUMP 1, JUMP 1", "L1:loop{again L1;}");
        textIs("LOAD 0, ZERO 0, STOP", "L0:loop{if(a){stop;}else{again L0;}}");
        textIs("LOAD 3, ZERO 2, STOP", "B1:{if(d){break B1;}else{break B1;}}stop;");
        textIs("PUSH -5, ZERO 2, STOP", "B1:{if((-5)){break B1;}else{break B1;}}stop;");
        // A block that is both a join and a head.
        textIs("LOAD 0, ZERO 4, PUSH 1, OUT, LOAD 1, ZERO 4, STOP",
                "B2:{if(a){out 1;break B2;}else{break B2;}}L2:loop{if(b){stop;}else{again L2;}}");
        // Two joins of one host: the one of the greater rank is opened first and closed last.
        textIs("LOAD 0, ZERO 6, LOAD 1, ZERO 6, LOAD 2, ZERO 8, LOAD 3, OUT, STOP",
                "B4:{B3:{if(a){if(b){if(c){break B3;}else{break B4;}}else{break B3;}}else{break B3;}}"
                + "out d;break B4;}stop;");
        textIs("LOAD 0, PUSH 1, ADD, LOAD 1, SUB, LOAD 2, MUL, LOAD 3, LESS, PUSH 0, SAME, OUT, STOP",
                "out (((((a+1)-b)*c)<d)=0);stop;");
        textIs("LOAD 0, LOAD 1, LOAD 2, SUB, SUB, OUT, STOP", "out (a-(b-c));stop;");
        textIs("PUSH -2147483648, OUT, PUSH 2147483647, OUT, PUSH -1, OUT, PUSH 0, OUT, PUSH 1000, OUT, STOP",
                "out (-2147483648);out 2147483647;out (-1);out 0;out 1000;stop;");
    }

    private static void temporaries() {
        textIs("LOAD 0, LOAD 0, PUSH 7, STORE 0, STORE 1, STORE 2, STOP", "t0=a;t1=a;a=7;b=t1;c=t0;stop;");
        // Only what holds the variable becomes a temporary, and not a second time.
        textIs("LOAD 0, LOAD 1, PUSH 1, STORE 0, PUSH 2, STORE 0, OUT, OUT, STOP",
                "t0=a;a=1;a=2;out b;out t0;stop;");
        textIs("LOAD 0, LOAD 1, ADD, LOAD 1, STORE 1, OUT, STOP", "t0=(a+b);b=b;out t0;stop;");
        // A temporary inside an expression may come into another one.
        textIs("LOAD 0, PUSH 1, STORE 0, LOAD 0, ADD, PUSH 2, STORE 0, OUT, STOP",
                "t0=a;a=1;t1=(t0+a);a=2;out t1;stop;");
        // What is stored itself is no longer on the stack.
        textIs("LOAD 0, PUSH 1, ADD, STORE 0, STOP", "a=(a+1);stop;");
        textIs("LOAD 3, PUSH 1, STORE 3, OUT, JUMP 5, LOAD 3, PUSH 1, STORE 3, OUT, STOP",
                "t0=d;d=1;out t0;t0=d;d=1;out t0;stop;");
    }

    private static void textIs(String code, String due) {
        Check.same("text of " + code, Check.textOf(Check.code(code)), due);
    }

    private static void textEdges() {
        LoopLifter x = Check.lifted("STOP");
        Check.same("text(-1)", (int) x.text(-1), 0);
        Check.same("text(least)", (int) x.text(Integer.MIN_VALUE), 0);
        Check.same("text(4)", x.text(4), ';');
        Check.same("text(5)", (int) x.text(5), 0);
        Check.same("text(greatest)", (int) x.text(Integer.MAX_VALUE), 0);
        Check.write(x, Check.code(COUNTING)).lift();
        Check.write(x, Check.code("STOP")).lift();
        Check.same("text behind a shorter one", (int) x.text(5), 0);
    }

    // Promise 9

    private static void gives() {
        LoopLifter x = new LoopLifter();
        for (int variable = 0; variable < 4; variable++) {
            Check.same("give", x.give(variable, 10 + variable), true);
        }
        Check.same("give(-1)", x.give(-1, 1), false);
        Check.same("give(4)", x.give(4, 1), false);
        Check.write(x, Check.code("STOP")).lift();
        x.run(0, 1);
        x.run(1, 1);
        x.give(2, -7);
        for (int variable = 0; variable < 4; variable++) {
            Check.same("value", x.value(0, variable), 10 + variable);
            Check.same("value", x.value(1, variable), 10 + variable);
        }
        x.run(1, 0);
        Check.same("what is given from now on", x.value(1, 2), -7);
        Check.same("what was given before", x.value(0, 2), 12);
        Check.write(x, Check.code("LOAD 2, PUSH 1, ADD, STORE 2, STOP")).lift();
        for (int machine = 0; machine < 2; machine++) {
            x.run(machine, 9);
            x.run(machine, 9);
            Check.same("a run begins anew", x.value(machine, 2), -6);
        }
    }

    // Promise 10

    private static void runs() {
        LoopLifter x = Check.lifted(COUNTING);
        for (int machine = 0; machine < 2; machine++) {
            Check.same("run", x.run(machine, 300), 8);
            Check.same("value", x.value(machine, 0), 3);
            Check.same("run of 0", x.run(machine, 0), 0);
            Check.same("value", x.value(machine, 0), 0);
            Check.same("run of 3", x.run(machine, 3), 3);
            Check.same("value", x.value(machine, 0), 1);
        }
        x.give(0, Integer.MIN_VALUE);
        for (int machine = 0; machine < 2; machine++) {
            Check.same("a long run", x.run(machine, 300), 300);
            Check.same("its value", x.value(machine, 0), Integer.MIN_VALUE + 150);
            Check.same("its end", x.done(machine, 299), 1);
            Check.same("behind its end", x.done(machine, 300), -1);
        }
    }

    private static void runsThatAreRefused() {
        LoopLifter x = Check.lifted(COUNTING);
        x.run(0, 5);
        int[][] refused = {{0, -1}, {0, 301}, {-1, 5}, {2, 5}, {1, Integer.MIN_VALUE}, {1, Integer.MAX_VALUE}, {7, 999}};
        for (int[] call : refused) {
            Check.isThrown("run(" + call[0] + ", " + call[1] + ")", ARGUMENT, () -> x.run(call[0], call[1]));
        }
        Check.same("status behind refused runs", x.status(0), 1);
        Check.same("done behind refused runs", x.done(0, 4), 0);
        Check.same("status behind refused runs", x.status(1), 0);
        LoopLifter none = Check.written(COUNTING);
        Check.isThrown("run of nothing", STATE, () -> none.run(0, 5));
        Check.isThrown("a wrong run of nothing", STATE, () -> none.run(2, 301));
    }

    private static void runOfEachOp() {
        int big = Integer.MAX_VALUE;
        int least = Integer.MIN_VALUE;
        opAnswers("ADD", big, 1, least);
        opAnswers("ADD", 2, 3, 5);
        opAnswers("SUB", 2, 3, -1);
        opAnswers("SUB", least, 1, big);
        opAnswers("MUL", 6, -7, -42);
        opAnswers("MUL", 65536, 65536, 0);
        opAnswers("LESS", 2, 3, 1);
        opAnswers("LESS", 3, 2, 0);
        opAnswers("LESS", 3, 3, 0);
        opAnswers("LESS", least, big, 1);
        opAnswers("SAME", 3, 3, 1);
        opAnswers("SAME", 3, -3, 0);
    }

    private static void opAnswers(String op, int a, int b, int due) {
        String code = "LOAD 1, LOAD 2, " + op + ", STORE 3, STOP";
        LoopLifter x = Check.lifted(code);
        x.give(1, a);
        x.give(2, b);
        for (int machine = 0; machine < 2; machine++) {
            Check.same("run of " + op, x.run(machine, 1), 1);
            Check.same(a + " " + op + " " + b, x.value(machine, 3), due);
        }
    }

    // Promise 11

    private static void statuses() {
        LoopLifter x = Check.lifted(COUNTING);
        for (int machine = 0; machine < 2; machine++) {
            Check.same("status before", x.status(machine), 0);
            x.run(machine, 0);
            Check.same("status of no block", x.status(machine), 1);
            x.run(machine, 7);
            Check.same("status one block before the end", x.status(machine), 1);
            x.run(machine, 8);
            Check.same("status at the end", x.status(machine), 2);
        }
        Check.same("status(-1)", x.status(-1), -1);
        Check.same("status(2)", x.status(2), -1);
        Check.same("status of a new object without that machine", new LoopLifter().status(2), -1);
    }

    // Promise 12

    private static void doneBlocks() {
        LoopLifter x = Check.lifted(COUNTING);
        int[] due = {0, 1, 0, 1, 0, 1, 0, 2};
        for (int machine = 0; machine < 2; machine++) {
            x.run(machine, 300);
            for (int k = 0; k < due.length; k++) {
                Check.same("done(" + machine + ", " + k + ")", x.done(machine, k), due[k]);
            }
            Check.same("done behind", x.done(machine, 8), -1);
            Check.same("done(-1)", x.done(machine, -1), -1);
            Check.same("done(least)", x.done(machine, Integer.MIN_VALUE), -1);
            Check.same("done(greatest)", x.done(machine, Integer.MAX_VALUE), -1);
            x.run(machine, 2);
            Check.same("done behind a shorter run", x.done(machine, 2), -1);
        }
        Check.same("done(2, 0)", x.done(2, 0), -1);
        Check.same("done(-1, 0)", x.done(-1, 0), -1);
        // Blocks of which nothing stands in the text are done all the same.
        LoopLifter empty = Check.lifted("JUMP 1, JUMP 2, JUMP 0");
        empty.run(1, 5);
        for (int k = 0; k < 5; k++) {
            Check.same("done of an empty block", empty.done(1, k), k % 3);
        }
    }

    // Promise 13

    private static void values() {
        LoopLifter x = Check.lifted("PUSH 5, STORE 0, PUSH 6, STORE 3, STOP");
        Check.isThrown("value before a run", NO_ELEMENT, () -> x.value(0, 0));
        x.run(0, 1);
        Check.same("value", x.value(0, 0), 5);
        Check.same("value", x.value(0, 1), 0);
        Check.same("value", x.value(0, 3), 6);
        Check.isThrown("value of the other machine", NO_ELEMENT, () -> x.value(1, 0));
        Check.isThrown("value(0, 4)", NO_ELEMENT, () -> x.value(0, 4));
        Check.isThrown("value(0, -1)", NO_ELEMENT, () -> x.value(0, -1));
        Check.isThrown("value(2, 0)", NO_ELEMENT, () -> x.value(2, 0));
        Check.isThrown("value(-1, 0)", NO_ELEMENT, () -> x.value(-1, 0));
        // Temporaries are numbers of their own, and what was on the stack keeps its old value.
        LoopLifter swap = Check.lifted("LOAD 0, LOAD 1, STORE 0, STORE 1, STOP");
        swap.give(0, 8);
        swap.give(1, 9);
        for (int machine = 0; machine < 2; machine++) {
            swap.run(machine, 1);
            Check.same("swapped", swap.value(machine, 0), 9);
            Check.same("swapped", swap.value(machine, 1), 8);
            Check.same("not touched", swap.value(machine, 2), 0);
        }
    }

    // Promise 14

    private static void outs() {
        LoopLifter x = Check.lifted(COUNTING);
        Check.same("outs before a run", x.outs(0), -1);
        x.run(0, 0);
        Check.same("outs of no block", x.outs(0), 0);
        Check.same("outs of the other machine", x.outs(1), -1);
        x.run(1, 300);
        Check.same("outs", x.outs(1), 3);
        Check.same("outs(2)", x.outs(2), -1);
        Check.same("outs(-1)", x.outs(-1), -1);
    }

    // Promise 15

    private static void latestOuts() {
        LoopLifter x = Check.lifted("LOAD 0, OUT, LOAD 0, PUSH 1, ADD, STORE 0, JUMP 0");
        for (int machine = 0; machine < 2; machine++) {
            int asked = machine;
            Check.isThrown("out before a run", NO_ELEMENT, () -> x.out(asked, 0));
            x.run(machine, 20);
            Check.same("the latest", x.out(machine, 0), 19);
            Check.same("the oldest kept", x.out(machine, 19), 0);
            x.run(machine, 45);
            Check.same("outs", x.outs(machine), 45);
            Check.same("the latest", x.out(machine, 0), 44);
            Check.same("one before", x.out(machine, 1), 43);
            Check.same("the oldest kept", x.out(machine, 19), 25);
            Check.isThrown("older ones", NO_ELEMENT, () -> x.out(asked, 20));
            Check.isThrown("out of -1", NO_ELEMENT, () -> x.out(asked, -1));
            Check.isThrown("out of the least", NO_ELEMENT, () -> x.out(asked, Integer.MIN_VALUE));
            x.run(machine, 2);
            Check.same("the oldest", x.out(machine, 1), 0);
            Check.isThrown("before the first", NO_ELEMENT, () -> x.out(asked, 2));
            x.run(machine, 0);
            Check.isThrown("out of no block", NO_ELEMENT, () -> x.out(asked, 0));
        }
        Check.isThrown("out(2, 0)", NO_ELEMENT, () -> x.out(2, 0));
        Check.isThrown("out(-1, 0)", NO_ELEMENT, () -> x.out(-1, 0));
    }
}
