/** The sentences of promises 1 to 15, each with a test of its own: ordinary inputs, edges, wrong inputs. */
final class PromiseTest {
    private static final int LEAST = Expect.LEAST;
    private static final int GREATEST = Expect.GREATEST;
    private static final int[] NO_MACHINES = {-1, 2, LEAST, GREATEST};
    private static final int[] NO_VARIABLES = {-1, 4, LEAST, GREATEST};

    public static void main(String[] args) {
        promise1();
        promise2();
        promise3();
        promise4();
        promise5();
        promise6();
        promise7();
        promise8();
        promise9();
        promise10();
        promise11();
        promise12();
        promise13();
        promise14();
        promise15();
        Check.end();
    }

    private static void promise1() {
        Check.sentence("1: No code", PromiseTest::noCodeAtFirst);
        Check.sentence("1: nothing is lifted", PromiseTest::nothingIsLiftedAtFirst);
        Check.sentence("1: no runs", PromiseTest::noRunsAtFirst);
        Check.sentence("1: what is given is 0", PromiseTest::givenAtFirst);
    }

    private static void noCodeAtFirst() {
        // Another object's code is not this one's.
        Check.lifted(Expect.COUNTING);
        Check.same("the first add", new LoopLifter().add(11, 0), 0);
        LoopLifter x = new LoopLifter();
        Check.isThrown("lift of a new object", Expect.ARGUMENT, x::lift);
        Check.same("its bad place", x.bad(), 0);
    }

    private static void nothingIsLiftedAtFirst() {
        LoopLifter x = new LoopLifter();
        Check.isThrown("count", Expect.STATE, () -> x.count(0));
        Check.isThrown("block", Expect.STATE, () -> x.block(0, 0));
        Check.isThrown("run", Expect.STATE, () -> x.run(0, 1));
        Check.same("text", (int) x.text(0), 0);
        Check.same("bad", x.bad(), -1);
    }

    private static void noRunsAtFirst() {
        noRuns(new LoopLifter());
    }

    private static void noRuns(LoopLifter asked) {
        Expect.eachMachine(asked, (x, machine) -> {
            Check.same("status", x.status(machine), 0);
            Check.same("outs", x.outs(machine), -1);
            Check.same("done", x.done(machine, 0), -1);
            Check.isThrown("value", Expect.NO_ELEMENT, () -> x.value(machine, 0));
            Check.isThrown("out", Expect.NO_ELEMENT, () -> x.out(machine, 0));
        });
    }

    private static void givenAtFirst() {
        // What is given to another object is not given to this one.
        new LoopLifter().give(2, 5);
        Expect.eachMachine(Check.lifted("STOP"), (x, machine) -> {
            x.run(machine, 1);
            for (int variable = 0; variable < 4; variable++) {
                Check.same("value", x.value(machine, variable), 0);
            }
        });
    }

    private static void promise2() {
        Check.sentence("2: Puts an instruction behind the code: its place.", PromiseTest::addAnswersPlaces);
        Check.sentence("2: -1, refused, if there are 32", PromiseTest::addTo32);
        Check.sentence("2: op isn't 0 .. 11", PromiseTest::addOfNoOp);
        Check.sentence("2: or x is not as said for it", PromiseTest::addOfAWrongX);
    }

    private static void addAnswersPlaces() {
        LoopLifter x = new LoopLifter();
        for (int op = 0; op < 12; op++) {
            Check.same("add(" + op + ", 0)", x.add(op, 0), op);
        }
        Expect.outs("PUSH 1, OUT, PUSH 2, OUT, STOP", 1, 2);
    }

    private static void addTo32() {
        LoopLifter x = new LoopLifter();
        for (int place = 0; place < 32; place++) {
            Check.same("add", x.add(11, 0), place);
        }
        Check.same("add to 32", x.add(11, 0), -1);
        Check.same("a wrong add to 32", x.add(12, 0), -1);
        Check.same("add to 32 once more", x.add(0, 7), -1);
        // The code behind the refused ones is the code before them: it still ends with STOP.
        Check.same("lift of 32", x.lift(), 1);
        x.clear();
        Check.same("add behind clear", x.add(11, 0), 0);
        // At 31 there is room for one.
        LoopLifter y = Check.written(Expect.times(31, "STOP"));
        Check.same("add to 31", y.add(11, 0), 31);
    }

    private static void addOfNoOp() {
        LoopLifter x = new LoopLifter();
        for (int op : new int[] {-1, 12, LEAST, GREATEST}) {
            Expect.refused(x, op, 0, 1);
        }
        Check.same("add(0, 0)", x.add(0, 0), 0);
        Check.same("add(11, 0)", x.add(11, 0), 1);
    }

    private static void addOfAWrongX() {
        LoopLifter x = new LoopLifter();
        for (int op : new int[] {1, 2}) {
            Expect.refused(x, op, -1, 4, LEAST, GREATEST);
        }
        for (int op : new int[] {9, 10}) {
            Expect.refused(x, op, -1, 32, LEAST, GREATEST);
        }
        for (int op : new int[] {3, 4, 5, 6, 7, 8, 11}) {
            Expect.refused(x, op, -1, 1);
        }
        Check.same("add behind refused ones", x.add(11, 0), 0);
        Expect.added(x, 1, 0, 3);
        Expect.added(x, 2, 0, 3);
        Expect.added(x, 9, 0, 31);
        Expect.added(x, 10, 0, 31);
        Expect.added(x, 0, LEAST, GREATEST);
    }

    private static void promise3() {
        Check.sentence("3: Takes the code away", PromiseTest::clearTakesTheCode);
        Check.sentence("3: what was lifted stays, with its runs", PromiseTest::liftedStaysBehindClear);
        Check.sentence("3: so behind add()", PromiseTest::liftedStaysBehindAdd);
    }

    private static void clearTakesTheCode() {
        LoopLifter x = Check.written(Expect.COUNTING);
        x.clear();
        Check.isThrown("lift behind clear", Expect.ARGUMENT, x::lift);
        Check.same("its bad place", x.bad(), 0);
        x.clear();
        Check.same("add behind clear of nothing", x.add(11, 0), 0);
        Check.same("lift", x.lift(), 1);
        LoopLifter full = Check.written(Expect.times(32, "STOP"));
        full.clear();
        Check.same("add behind clear of 32", full.add(11, 0), 0);
    }

    private static LoopLifter counted() {
        LoopLifter x = Check.lifted(Expect.COUNTING);
        x.run(0, 300);
        x.run(1, 4);
        return x;
    }

    /** What counted() answers, and goes on answering whatever is written behind it. */
    private static void staysCounted(LoopLifter x) {
        int[] counts = {3, 1, 0, 0, Expect.COUNTING_TEXT.length()};
        for (int what = 0; what < counts.length; what++) {
            Check.same("count(" + what + ")", x.count(what), counts[what]);
        }
        Expect.block(x, 1, 4, 7, 2, 0, 1);
        for (int i = 0; i < Expect.COUNTING_TEXT.length(); i++) {
            Check.same("text(" + i + ")", x.text(i), Expect.COUNTING_TEXT.charAt(i));
        }
        int[][] runs = {{2, 3, 3, 2, 2}, {1, 2, 2, 1, -1}};
        Expect.eachMachine(x, (asked, machine) -> {
            int[] due = runs[machine];
            Check.same("status", asked.status(machine), due[0]);
            Check.same("value", asked.value(machine, 0), due[1]);
            Check.same("outs", asked.outs(machine), due[2]);
            Check.same("out", asked.out(machine, 0), due[3]);
            Check.same("done", asked.done(machine, 7), due[4]);
        });
    }

    private static void liftedStaysBehindClear() {
        LoopLifter counted = counted();
        counted.clear();
        staysCounted(counted);
        runsCounting(counted);
    }

    private static void liftedStaysBehindAdd() {
        LoopLifter counted = counted();
        Check.same("add", counted.add(11, 0), 12);
        staysCounted(counted);
        Check.write(counted, Check.code("PUSH 5, OUT, STOP"));
        staysCounted(counted);
        // Machine 0, too, runs the code that was lifted.
        runsCounting(counted);
        Check.same("lift of the new code", counted.lift(), 1);
        Check.same("run of the new code", counted.run(0, 300), 1);
    }

    private static void runsCounting(LoopLifter counted) {
        Expect.eachMachine(counted, (x, machine) -> {
            Check.same("run", x.run(machine, 300), 8);
            Check.same("value", x.value(machine, 0), 3);
        });
    }

    private static void promise4() {
        Check.sentence("4: Lifts the code: how many blocks count", PromiseTest::liftCounts);
        Check.sentence("4: Lifts the code", PromiseTest::liftsAgainAndAgain);
        Check.sentence("4: there are no runs then", PromiseTest::noRunsBehindLift);
        Check.sentence("4: IllegalArgumentException: it is not sound", PromiseTest::liftOfUnsoundCode);
        Check.sentence("4: UnsupportedOperationException: it is tangled", PromiseTest::liftOfTangledCode);
        Check.sentence("4: (Then what was lifted before stays, and the runs.)", PromiseTest::stayBehindARefusedLift);
    }

    private static void liftCounts() {
        Check.same("lift of one block", Check.written("STOP").lift(), 1);
        Check.same("lift of a block that doesn't count", Check.written("STOP, STOP").lift(), 1);
        LoopLifter x = Check.written(Expect.COUNTING);
        Check.same("lift", x.lift(), 3);
        Check.same("lift again", x.lift(), 3);
        Check.same("lift of another code", Check.write(x, Check.code(Expect.DIAMOND)).lift(), 4);
        Check.same("lift of a smaller code", Check.write(x, Check.code("STOP")).lift(), 1);
        Check.same("count of it", x.count(0), 1);
    }

    private static void liftsAgainAndAgain() {
        // As many statements and expressions as there is room for, so that nothing may pile up.
        String code = Expect.times(3, "LOAD 0, LOAD 0, LOAD 0, PUSH 1, STORE 0, OUT, OUT, OUT") + ", STOP";
        LoopLifter lifted = Check.lifted(code);
        int length = lifted.count(4);
        for (int n = 0; n < 60; n++) {
            Check.same("lift again", lifted.lift(), 1);
            Check.same("temporaries behind it", lifted.count(3), 9);
            Check.same("characters behind it", lifted.count(4), length);
        }
        lifted.give(0, 7);
        Expect.eachMachine(lifted, (x, machine) -> {
            Check.same("run", x.run(machine, 300), 1);
            Check.same("outs", x.outs(machine), 9);
            Check.same("the latest", x.out(machine, 0), 1);
            Check.same("the first", x.out(machine, 8), 7);
        });
    }

    private static void noRunsBehindLift() {
        LoopLifter x = counted();
        x.lift();
        noRuns(x);
        LoopLifter y = counted();
        Check.write(y, Check.code("STOP")).lift();
        noRuns(y);
    }

    private static void liftOfUnsoundCode() {
        for (String code : new String[] {"", "PUSH 1", "OUT, STOP", "JUMP 1", "PUSH 1, STOP", "PUSH 1, ZERO 0"}) {
            Check.isThrown("lift of " + code, Expect.ARGUMENT, Check.written(code)::lift);
        }
        // What is missing may be added, and what is added may spoil it.
        LoopLifter x = Check.written("PUSH 1, OUT");
        Check.isThrown("lift without an end", Expect.ARGUMENT, x::lift);
        x.add(11, 0);
        Check.same("lift with an end", x.lift(), 1);
        x.add(8, 0);
        Check.isThrown("lift behind its end", Expect.ARGUMENT, x::lift);
    }

    private static void liftOfTangledCode() {
        Check.isThrown("lift", Expect.UNSUPPORTED, Check.written(Expect.TANGLED)::lift);
        Check.isThrown("lift", Expect.UNSUPPORTED, Check.written("LOAD 0, ZERO 3, JUMP 3, JUMP 2")::lift);
        // A tangle within a loop, and one that a loop lies around.
        Check.isThrown("lift", Expect.UNSUPPORTED,
                Check.written("LOAD 0, ZERO 3, JUMP 3, LOAD 1, ZERO 2, JUMP 0")::lift);
    }

    private static void stayBehindARefusedLift() {
        allStaysBehindLift("", Expect.ARGUMENT);
        allStaysBehindLift("PUSH 1, STOP", Expect.ARGUMENT);
        allStaysBehindLift(Expect.TANGLED, Expect.UNSUPPORTED);
        // Before anything was lifted, nothing is lifted by it.
        LoopLifter none = Check.written(Expect.TANGLED);
        Check.isThrown("lift", Expect.UNSUPPORTED, none::lift);
        Check.isThrown("count", Expect.STATE, () -> none.count(0));
        Check.same("text", (int) none.text(0), 0);
    }

    private static void allStaysBehindLift(String code, Class<? extends RuntimeException> thrown) {
        LoopLifter x = Check.write(counted(), Check.code(code));
        Check.isThrown("lift of " + code, thrown, x::lift);
        staysCounted(x);
        String due = Expect.allAnswers(Check.write(counted(), Check.code(code)));
        Check.same("all answers behind a refused lift of " + code, Expect.allAnswers(x), due);
        LoopLifter y = Check.write(counted(), Check.code(code));
        Check.isThrown("lift of " + code, thrown, y::lift);
        runsCounting(y);
    }

    private static void promise5() {
        Check.sentence("5: the first bad place", PromiseTest::firstBadPlace);
        Check.sentence("5: or, for tangled code, the first place of the block of least rank",
                PromiseTest::badOfTangledCode);
        Check.sentence("5: When lift() threw last", PromiseTest::badOfTheLatest);
        Check.sentence("5: -1 if it never threw (a lift() that goes through leaves it)", PromiseTest::badStays);
    }

    private static void firstBadPlace() {
        Expect.unsound("", 0);
        Expect.unsound("STOP, STOP, OUT, PUSH 1", 2);
        Expect.unsound("OUT, OUT, JUMP 9", 0);
        Expect.unsound("PUSH 1, OUT, JUMP 9, OUT", 2);
        Expect.unsound(Expect.times(31, "STOP") + ", PUSH 1", 31);
    }

    private static void badOfTangledCode() {
        Expect.tangled(Expect.TANGLED, Expect.TANGLED_PLACE);
        // Of two tangles one behind the other, the first.
        Expect.tangled("LOAD 0, ZERO 4, LOAD 1, ZERO 6, LOAD 2, ZERO 2, LOAD 3, ZERO 4, STOP", 4);
        // Of two beside each other the one that is gone into last: it has the lesser ranks.
        Expect.tangled("LOAD 0, ZERO 6, LOAD 1, ZERO 5, JUMP 5, JUMP 4, LOAD 2, ZERO 9, JUMP 9, JUMP 8", 9);
        // The first place of a block with more than one, by its second edge.
        Expect.tangled("LOAD 0, ZERO 3, JUMP 3, LOAD 1, OUT, LOAD 2, ZERO 2, STOP", 3);
        // A block that goes back to one that dominates it is not meant.
        Expect.tangled("LOAD 0, ZERO 0, LOAD 0, ZERO 5, JUMP 5, JUMP 4", 5);
    }

    private static void badOfTheLatest() {
        LoopLifter x = Check.written(Expect.TANGLED);
        Check.isThrown("lift of tangled code", Expect.UNSUPPORTED, x::lift);
        Check.same("bad of tangled code", x.bad(), Expect.TANGLED_PLACE);
        Check.isThrown("lift without an end", Expect.ARGUMENT, Check.write(x, Check.code("PUSH 1, OUT"))::lift);
        Check.same("bad of the latest", x.bad(), 1);
        Check.isThrown("lift of nothing", Expect.ARGUMENT, Check.write(x, Check.code(""))::lift);
        Check.same("bad of the latest", x.bad(), 0);
        Check.isThrown("lift of tangled code", Expect.UNSUPPORTED, Check.write(x, Check.code(Expect.TANGLED))::lift);
        Check.same("bad of the latest", x.bad(), Expect.TANGLED_PLACE);
    }

    private static void badStays() {
        LoopLifter x = new LoopLifter();
        Check.same("bad at first", x.bad(), -1);
        Check.write(x, Check.code(Expect.COUNTING)).lift();
        Check.same("bad behind a lift that went through", x.bad(), -1);
        Check.isThrown("lift without an end", Expect.ARGUMENT, Check.write(x, Check.code("PUSH 1, OUT"))::lift);
        x.add(11, 0);
        Check.same("bad behind add", x.bad(), 1);
        x.lift();
        Check.same("bad behind a lift that goes through", x.bad(), 1);
        x.run(0, 300);
        x.clear();
        Check.same("bad behind run and clear", x.bad(), 1);
    }

    private static void promise6() {
        Check.sentence("6: heads (1), joins (2), temporaries in all (3), characters of the text (4)",
                PromiseTest::counts);
        Check.sentence("6: Of what was lifted", PromiseTest::countsOfWhatWasLifted);
        Check.sentence("6: IllegalStateException: nothing was lifted", PromiseTest::countOfNothing);
        Check.sentence("6: IllegalArgumentException: another what", PromiseTest::countOfAnotherWhat);
    }

    private static void counts() {
        Expect.counts("STOP", 1, 0, 0, 0, 5);
        Expect.counts(Expect.COUNTING, 3, 1, 0, 0, Expect.COUNTING_TEXT.length());
        Expect.counts(Expect.DIAMOND, 4, 0, 1, 0, 55);
        Expect.counts("LOAD 0, LOAD 0, PUSH 7, STORE 0, STORE 1, STORE 2, STOP", 1, 0, 0, 2, 29);
        // Temporaries in all blocks that count, and only there; heads and joins in plenty.
        Expect.counts("LOAD 0, PUSH 1, STORE 0, OUT, JUMP 5, LOAD 0, PUSH 1, STORE 0, OUT, STOP, "
                + "LOAD 0, PUSH 1, STORE 0, OUT, STOP", 2, 0, 0, 2, 37);
        Expect.counts(selfLoops(), 16, 15, 0, 0);
        Expect.counts(oneJoinBehindAnother(), 16, 0, 15, 0);
    }

    /** Fifteen blocks that may go to themselves, and a STOP. */
    private static String selfLoops() {
        StringBuilder code = new StringBuilder();
        for (int n = 0; n < 15; n++) {
            code.append("LOAD 0, ZERO ").append(2 * n).append(", ");
        }
        return code + "STOP";
    }

    private static String oneJoinBehindAnother() {
        StringBuilder code = new StringBuilder();
        for (int n = 0; n < 15; n++) {
            code.append("LOAD 0, ZERO ").append(2 * n + 2).append(", ");
        }
        return code + "STOP";
    }

    private static void countsOfWhatWasLifted() {
        LoopLifter x = Check.lifted(Expect.DIAMOND);
        Check.write(x, Check.code(Expect.COUNTING));
        Check.same("heads before lift", x.count(1), 0);
        Check.same("joins before lift", x.count(2), 1);
        Check.isThrown("lift", Expect.UNSUPPORTED, Check.write(x, Check.code(Expect.TANGLED))::lift);
        Check.same("heads behind a refused lift", x.count(1), 0);
        Check.write(x, Check.code(Expect.COUNTING)).lift();
        Check.same("heads behind lift", x.count(1), 1);
        Check.same("joins behind lift", x.count(2), 0);
    }

    private static void countOfNothing() {
        LoopLifter x = new LoopLifter();
        for (int what = -1; what <= 5; what++) {
            int asked = what;
            Check.isThrown("count(" + what + ")", Expect.STATE, () -> x.count(asked));
        }
        Check.write(x, Check.code(Expect.COUNTING));
        Check.isThrown("count before lift", Expect.STATE, () -> x.count(0));
        Check.isThrown("lift", Expect.UNSUPPORTED, Check.write(x, Check.code(Expect.TANGLED))::lift);
        Check.isThrown("count behind a refused lift", Expect.STATE, () -> x.count(0));
    }

    private static void countOfAnotherWhat() {
        LoopLifter x = Check.lifted(Expect.COUNTING);
        for (int what : new int[] {-1, 5, LEAST, GREATEST}) {
            Check.isThrown("count(" + what + ")", Expect.ARGUMENT, () -> x.count(what));
        }
    }

    private static void promise7() {
        Check.sentence("7: its first place (what = 0), how many instructions (1), its rank (2)", PromiseTest::blocks);
        Check.sentence("7: its host (3; -1 for block 0)", PromiseTest::hosts);
        Check.sentence("7: how many loops its statements lie in (4)", PromiseTest::loopsAroundBlocks);
        Check.sentence("7: IllegalStateException: nothing was lifted", PromiseTest::blockOfNothing);
        Check.sentence("7: NoSuchElementException: no such block counts", PromiseTest::noSuchBlock);
        Check.sentence("7: IllegalArgumentException: another what", PromiseTest::blockOfAnotherWhat);
    }

    private static void blocks() {
        LoopLifter x = Check.lifted(Expect.COUNTING);
        Expect.block(x, 0, 0, 4, 0);
        Expect.block(x, 1, 4, 7, 2);
        Expect.block(x, 2, 11, 1, 1);
        LoopLifter diamond = Check.lifted(Expect.DIAMOND);
        Expect.block(diamond, 0, 0, 2, 0);
        Expect.block(diamond, 1, 2, 3, 2);
        Expect.block(diamond, 2, 5, 2, 1);
        Expect.block(diamond, 3, 7, 3, 3);
        // The last block goes to the end of the code, also of one with 32 places.
        Expect.block(Check.lifted("JUMP 29, " + Expect.times(28, "STOP") + ", LOAD 0, OUT, STOP"), 29, 29, 3, 1);
    }

    private static void hosts() {
        Expect.blocks("STOP", 3, -1);
        // Block 0 has none even if an edge goes back to it.
        Expect.blocks("JUMP 1, JUMP 0", 3, -1, 0);
        Expect.blocks(Expect.COUNTING, 3, -1, 0, 0);
        Expect.blocks(Expect.DIAMOND, 3, -1, 0, 0, 0);
    }

    private static void loopsAroundBlocks() {
        Expect.blocks("STOP", 4, 0);
        Expect.blocks("JUMP 1, JUMP 1", 4, 0, 1);
        // What is gone to out of a loop lies in it as text, a join of its head, too.
        Expect.blocks(Expect.COUNTING, 4, 1, 1, 1);
        Expect.blocks("LOAD 0, ZERO 4, LOAD 1, ZERO 0, LOAD 2, OUT, STOP", 4, 1, 1, 1);
        // The outer loop's exit lies in one, what lies behind the inner loop in two.
        LoopLifter x = Check.lifted("LOAD 0, ZERO 7, LOAD 1, ZERO 6, LOAD 2, ZERO 2, JUMP 0, STOP");
        int[] due = {1, 2, 2, 2, 1};
        for (int b = 0; b < due.length; b++) {
            Check.same("loops around " + b, x.block(b, 4), due[b]);
        }
        // A join of which no head is a host lies in no loop.
        Expect.blocks("LOAD 0, ZERO 4, LOAD 1, ZERO 2, STOP", 4, 0, 1, 0);
        Expect.blocks(selfLoops(), 4, 1, 2, 3, 4, 5, 6, 7, 8, 9, 10, 11, 12, 13, 14, 15, 15);
    }

    private static void blockOfNothing() {
        LoopLifter x = Check.written(Expect.COUNTING);
        int[][] asked = {{0, 0}, {0, 4}, {0, 5}, {3, 0}, {-1, -1}};
        for (int[] call : asked) {
            Check.isThrown("block(" + call[0] + ", " + call[1] + ")", Expect.STATE, () -> x.block(call[0], call[1]));
        }
    }

    private static void noSuchBlock() {
        LoopLifter x = Check.lifted("JUMP 2, STOP, STOP");
        for (int b : new int[] {1, 3, -1, 31, 32, 33, LEAST, GREATEST}) {
            Check.isThrown("block(" + b + ", 0)", Expect.NO_ELEMENT, () -> x.block(b, 0));
            Check.isThrown("block(" + b + ", 5)", Expect.NO_ELEMENT, () -> x.block(b, 5));
        }
        Check.same("block(2, 0)", x.block(2, 0), 2);
        // Blocks of what was lifted before are no blocks of it.
        Check.write(x, Check.code("STOP")).lift();
        Check.isThrown("block(2, 0)", Expect.NO_ELEMENT, () -> x.block(2, 0));
        LoopLifter full = Check.lifted(Expect.times(32, "STOP"));
        Check.isThrown("block(31, 0)", Expect.NO_ELEMENT, () -> full.block(31, 0));
        Check.isThrown("block(32, 0)", Expect.NO_ELEMENT, () -> full.block(32, 0));
    }

    private static void blockOfAnotherWhat() {
        LoopLifter x = Check.lifted(Expect.COUNTING);
        for (int what : new int[] {-1, 5, LEAST, GREATEST}) {
            Check.isThrown("block(0, " + what + ")", Expect.ARGUMENT, () -> x.block(0, what));
        }
    }

    private static void promise8() {
        Check.sentence("8: Character i of the text", PromiseTest::characters);
        Check.sentence("8: 0 if there is none", PromiseTest::noCharacters);
    }

    private static void characters() {
        LoopLifter x = Check.lifted("STOP");
        Check.same("text(0)", x.text(0), 's');
        Check.same("text(4)", x.text(4), ';');
        Expect.text(Expect.COUNTING, Expect.COUNTING_TEXT);
        Check.write(x, Check.code(Expect.COUNTING));
        Check.same("text before lift", x.text(0), 's');
        x.lift();
        Check.same("text behind lift", x.text(0), 'L');
    }

    private static void noCharacters() {
        Check.same("text(0) of nothing", (int) new LoopLifter().text(0), 0);
        LoopLifter x = Check.lifted("STOP");
        for (int i : new int[] {-1, 5, 6, 2047, 2048, LEAST, GREATEST}) {
            Check.same("text(" + i + ")", (int) x.text(i), 0);
        }
        // Behind a shorter text nothing of the longer one is left.
        Check.write(x, Check.code(Expect.COUNTING)).lift();
        Check.write(x, Check.code("STOP")).lift();
        for (int i = 5; i <= Expect.COUNTING_TEXT.length(); i++) {
            Check.same("text(" + i + ") behind a shorter one", (int) x.text(i), 0);
        }
    }

    private static void promise9() {
        Check.sentence("9: What a variable is at the beginning of runs from now on: true", PromiseTest::gives);
        Check.sentence("9: false, refused, if there is no such variable", PromiseTest::givesThatAreRefused);
    }

    private static void gives() {
        LoopLifter given = Check.written("LOAD 2, PUSH 1, ADD, STORE 2, STOP");
        for (int variable = 0; variable < 4; variable++) {
            Check.same("give", given.give(variable, 10 + variable), true);
        }
        given.lift();
        Expect.eachMachine(given, (x, machine) -> {
            // Each run begins with it anew.
            x.run(machine, 1);
            x.run(machine, 1);
            Check.same("what a run makes of it", x.value(machine, 2), 13);
            Check.same("what a run leaves", x.value(machine, 3), 13);
        });
        Check.same("give the least", given.give(2, LEAST), true);
        Check.same("give the greatest", given.give(3, GREATEST), true);
        Expect.eachMachine(given, (x, machine) -> {
            Check.same("a run before", x.value(machine, 2), 13);
            Check.same("a run before", x.value(machine, 3), 13);
            x.run(machine, 1);
            Check.same("a run from now on", x.value(machine, 2), LEAST + 1);
            Check.same("a run from now on", x.value(machine, 3), GREATEST);
            Check.same("what was given before", x.value(machine, 0), 10);
        });
        // Neither clear() nor lift() takes away what is given.
        Check.write(given, Check.code("STOP")).lift();
        given.run(0, 1);
        Check.same("what is given behind lift", given.value(0, 2), LEAST);
    }

    private static void givesThatAreRefused() {
        LoopLifter x = Check.lifted("STOP");
        for (int variable : NO_VARIABLES) {
            Check.same("give(" + variable + ", 7)", x.give(variable, 7), false);
        }
        x.run(0, 1);
        for (int variable = 0; variable < 4; variable++) {
            Check.same("value", x.value(0, variable), 0);
        }
    }

    private static void promise10() {
        Check.sentence("10: Runs a machine from the beginning, until the run ends", PromiseTest::runsToTheEnd);
        Check.sentence("10: or so many blocks (0 .. 300) are done: how many were done", PromiseTest::runsSoManyBlocks);
        Check.sentence("10: IllegalStateException: nothing was lifted", PromiseTest::runOfNothing);
        Check.sentence("10: IllegalArgumentException: there is no such machine, or it isn't 0 .. 300",
                PromiseTest::runsThatAreRefused);
    }

    private static void runsToTheEnd() {
        Expect.eachMachine(Check.lifted(Expect.COUNTING), (x, machine) -> {
            Check.same("run", x.run(machine, 300), 8);
            Check.same("run of just so many", x.run(machine, 8), 8);
            Check.same("value", x.value(machine, 0), 3);
            // From the beginning, not from where the latest run was cut off.
            Check.same("run of 3", x.run(machine, 3), 3);
            Check.same("run of 3 again", x.run(machine, 3), 3);
            Check.same("value", x.value(machine, 0), 1);
            Check.same("outs", x.outs(machine), 1);
            Check.same("done", x.done(machine, 0), 0);
        });
    }

    private static void runsSoManyBlocks() {
        Expect.eachMachine(Check.lifted(Expect.ENDLESS), (x, machine) -> {
            for (int blocks : new int[] {0, 1, 2, 299, 300}) {
                Check.same("run of " + blocks, x.run(machine, blocks), blocks);
                Check.same("value behind " + blocks, x.value(machine, 0), blocks);
                Check.same("outs behind " + blocks, x.outs(machine), blocks);
            }
        });
        // One less than all, and all of them.
        Expect.eachMachine(Check.lifted(Expect.COUNTING), (x, machine) -> {
            Check.same("run of 7", x.run(machine, 7), 7);
            Check.same("run of 9", x.run(machine, 9), 8);
            Check.same("run of 0", x.run(machine, 0), 0);
        });
    }

    private static void runOfNothing() {
        LoopLifter x = Check.written(Expect.COUNTING);
        int[][] asked = {{0, 5}, {1, 5}, {0, 0}, {2, 5}, {0, 301}, {-1, -1}};
        for (int[] call : asked) {
            Check.isThrown("run(" + call[0] + ", " + call[1] + ")", Expect.STATE, () -> x.run(call[0], call[1]));
        }
        noRuns(x);
    }

    private static void runsThatAreRefused() {
        LoopLifter counted = counted();
        for (int machine : NO_MACHINES) {
            Check.isThrown("run(" + machine + ", 5)", Expect.ARGUMENT, () -> counted.run(machine, 5));
        }
        Expect.eachMachine(counted, (x, machine) -> {
            for (int blocks : new int[] {-1, 301, LEAST, GREATEST}) {
                Check.isThrown("run(" + machine + ", " + blocks + ")", Expect.ARGUMENT, () -> x.run(machine, blocks));
            }
        });
        staysCounted(counted);
    }

    private static void promise11() {
        Check.sentence("11: 0 there was none", PromiseTest::statusOfNoRun);
        Check.sentence("11: 1 it was cut off", PromiseTest::statusOfARunCutOff);
        Check.sentence("11: 2 it ended", PromiseTest::statusOfARunThatEnded);
        Check.sentence("11: -1 if there is no such machine", PromiseTest::statusOfNoMachine);
    }

    private static void statusOfNoRun() {
        LoopLifter x = Check.lifted(Expect.COUNTING);
        Check.same("status(0)", x.status(0), 0);
        Check.same("status(1)", x.status(1), 0);
        x.run(1, 300);
        Check.same("status(0) behind a run of machine 1", x.status(0), 0);
        LoopLifter y = Check.lifted(Expect.COUNTING);
        y.run(0, 300);
        Check.same("status(1) behind a run of machine 0", y.status(1), 0);
        y.lift();
        Check.same("status(0) behind lift", y.status(0), 0);
    }

    private static void statusOfARunCutOff() {
        Expect.eachMachine(Check.lifted(Expect.COUNTING), (x, machine) -> {
            for (int blocks : new int[] {0, 1, 7}) {
                x.run(machine, blocks);
                Check.same("status behind " + blocks, x.status(machine), 1);
            }
            // The latest run counts, though the one before it ended.
            x.run(machine, 300);
            x.run(machine, 0);
            Check.same("status of the latest", x.status(machine), 1);
        });
        Expect.eachMachine(Check.lifted("JUMP 0"), (x, machine) -> {
            x.run(machine, 300);
            Check.same("status of a run without an end", x.status(machine), 1);
        });
    }

    private static void statusOfARunThatEnded() {
        Expect.eachMachine(Check.lifted(Expect.COUNTING), (x, machine) -> {
            x.run(machine, 7);
            for (int blocks : new int[] {8, 9, 300}) {
                x.run(machine, blocks);
                Check.same("status behind " + blocks, x.status(machine), 2);
            }
        });
    }

    private static void statusOfNoMachine() {
        LoopLifter x = counted();
        for (int machine : NO_MACHINES) {
            Check.same("status(" + machine + ")", x.status(machine), -1);
            Check.same("status(" + machine + ") of a new object", new LoopLifter().status(machine), -1);
        }
    }

    private static void promise12() {
        Check.sentence("12: The k-th block (0 the first) that a machine's latest run did", PromiseTest::doneBlocks);
        Check.sentence("12: -1 if there is none", PromiseTest::noDoneBlocks);
    }

    private static void doneBlocks() {
        Expect.done(Expect.COUNTING, 0, 0, 1, 0, 1, 0, 1, 0, 2);
        for (int machine = 0; machine < 2; machine++) {
            LoopLifter x = Check.lifted("JUMP 1, JUMP 2, JUMP 0");
            x.run(machine, 300);
            for (int k = 0; k < 300; k++) {
                Check.same("done(" + machine + ", " + k + ")", x.done(machine, k), k % 3);
            }
            Check.same("done(" + machine + ", 300)", x.done(machine, 300), -1);
        }
    }

    private static void noDoneBlocks() {
        Expect.eachMachine(Check.lifted(Expect.COUNTING), (x, machine) -> {
            Check.same("done before a run", x.done(machine, 0), -1);
            x.run(machine, 300);
            Check.same("the last", x.done(machine, 7), 2);
            for (int k : new int[] {-1, 8, 300, LEAST, GREATEST}) {
                Check.same("done(" + machine + ", " + k + ")", x.done(machine, k), -1);
            }
            x.run(machine, 2);
            Check.same("done behind a shorter run", x.done(machine, 2), -1);
            x.run(machine, 0);
            Check.same("done behind a run of 0", x.done(machine, 0), -1);
        });
        for (int machine : NO_MACHINES) {
            Check.same("done(" + machine + ", 0)", counted().done(machine, 0), -1);
        }
    }

    private static void promise13() {
        Check.sentence("13: What a variable is at the end of a machine's latest run.", PromiseTest::values);
        Check.sentence("13: NoSuchElementException: there is no such run", PromiseTest::valueOfNoRun);
        Check.sentence("13: or variable", PromiseTest::valueOfNoVariable);
    }

    private static void values() {
        LoopLifter given = Check.lifted("PUSH 5, STORE 0, PUSH 6, STORE 3, JUMP 5, PUSH 7, STORE 3, STOP");
        given.give(0, 1);
        given.give(1, 2);
        Expect.eachMachine(given, (x, machine) -> {
            int[][] due = {{1, 2, 0, 0}, {5, 2, 0, 6}, {5, 2, 0, 7}};
            for (int blocks = 2; blocks >= 0; blocks--) {
                x.run(machine, blocks);
                for (int variable = 0; variable < 4; variable++) {
                    Check.same("value behind " + blocks, x.value(machine, variable), due[blocks][variable]);
                }
            }
        });
        // A run of the other machine doesn't matter.
        given.run(0, 2);
        given.run(1, 1);
        Check.same("value of machine 0", given.value(0, 3), 7);
        Check.same("value of machine 1", given.value(1, 3), 6);
    }

    private static void valueOfNoRun() {
        LoopLifter x = Check.lifted("STOP");
        Check.isThrown("value before a run", Expect.NO_ELEMENT, () -> x.value(0, 0));
        x.run(0, 1);
        Check.same("value", x.value(0, 0), 0);
        Check.isThrown("value of the other machine", Expect.NO_ELEMENT, () -> x.value(1, 0));
        x.run(1, 1);
        for (int machine : NO_MACHINES) {
            Check.isThrown("value(" + machine + ", 0)", Expect.NO_ELEMENT, () -> x.value(machine, 0));
        }
        x.lift();
        Check.isThrown("value behind lift", Expect.NO_ELEMENT, () -> x.value(0, 0));
    }

    private static void valueOfNoVariable() {
        LoopLifter x = counted();
        for (int variable : NO_VARIABLES) {
            Check.isThrown("value(0, " + variable + ")", Expect.NO_ELEMENT, () -> x.value(0, variable));
            Check.isThrown("value(1, " + variable + ")", Expect.NO_ELEMENT, () -> x.value(1, variable));
        }
    }

    private static void promise14() {
        Check.sentence("14: How many numbers a machine's latest run put out", PromiseTest::outs);
        Check.sentence("14: -1 if there was none", PromiseTest::outsOfNoRun);
    }

    private static void outs() {
        Expect.eachMachine(Check.lifted(Expect.COUNTING), (x, machine) -> {
            x.run(machine, 300);
            Check.same("outs", x.outs(machine), 3);
            x.run(machine, 2);
            Check.same("outs of a shorter run", x.outs(machine), 1);
            x.run(machine, 1);
            Check.same("outs of a run that put out nothing", x.outs(machine), 0);
            x.run(machine, 0);
            Check.same("outs of no block", x.outs(machine), 0);
        });
        // All are counted, not only those that are kept: as many as a run can put out.
        LoopLifter many = Check.lifted(Expect.times(15, "LOAD 0, OUT") + ", JUMP 0");
        Expect.eachMachine(many, (x, machine) -> {
            x.run(machine, 300);
            Check.same("outs", x.outs(machine), 4500);
        });
    }

    private static void outsOfNoRun() {
        LoopLifter x = Check.lifted(Expect.COUNTING);
        Check.same("outs(0) before a run", x.outs(0), -1);
        x.run(1, 300);
        Check.same("outs(0) behind a run of machine 1", x.outs(0), -1);
        x.run(0, 300);
        for (int machine : NO_MACHINES) {
            Check.same("outs(" + machine + ")", x.outs(machine), -1);
        }
        x.lift();
        Check.same("outs(1) behind lift", x.outs(1), -1);
    }

    private static void promise15() {
        Check.sentence("15: The number that a machine's latest run put out k numbers before its latest one",
                PromiseTest::latestOuts);
        Check.sentence("15: (0 .. 19; older ones are not kept)", PromiseTest::olderOuts);
        Check.sentence("15: NoSuchElementException: there is none", PromiseTest::noOuts);
    }

    private static void latestOuts() {
        Expect.eachMachine(Check.lifted(Expect.ENDLESS), (x, machine) -> {
            for (int blocks : new int[] {1, 5, 19, 20, 21, 40, 45, 300}) {
                x.run(machine, blocks);
                for (int k = 0; k < Math.min(blocks, 20); k++) {
                    Check.same("out(" + machine + ", " + k + ") of " + blocks, x.out(machine, k), blocks - 1 - k);
                }
            }
        });
    }

    private static void olderOuts() {
        Expect.eachMachine(Check.lifted(Expect.ENDLESS), (x, machine) -> {
            for (int blocks : new int[] {20, 21, 41, 300}) {
                x.run(machine, blocks);
                Check.same("out(" + machine + ", 19) of " + blocks, x.out(machine, 19), blocks - 20);
                Check.isThrown("out(" + machine + ", 20) of " + blocks, Expect.NO_ELEMENT, () -> x.out(machine, 20));
                Check.isThrown("out(" + machine + ", 21) of " + blocks, Expect.NO_ELEMENT, () -> x.out(machine, 21));
            }
        });
    }

    private static void noOuts() {
        Expect.eachMachine(Check.lifted(Expect.ENDLESS), (x, machine) -> {
            Check.isThrown("out before a run", Expect.NO_ELEMENT, () -> x.out(machine, 0));
            x.run(machine, 19);
            Check.same("the first one", x.out(machine, 18), 0);
            for (int k : new int[] {19, -1, LEAST, GREATEST}) {
                Check.isThrown("out(" + machine + ", " + k + ")", Expect.NO_ELEMENT, () -> x.out(machine, k));
            }
            x.run(machine, 0);
            Check.isThrown("out of no block", Expect.NO_ELEMENT, () -> x.out(machine, 0));
        });
        for (int machine : NO_MACHINES) {
            Check.isThrown("out(" + machine + ", 0)", Expect.NO_ELEMENT, () -> counted().out(machine, 0));
        }
        LoopLifter x = counted();
        x.lift();
        Check.isThrown("out behind lift", Expect.NO_ELEMENT, () -> x.out(0, 0));
    }
}
