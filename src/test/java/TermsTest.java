/** The sentences under "What it is" and "Terms", each with a test of its own at the boundaries that it names. */
final class TermsTest {
    private static final int LEAST = Expect.LEAST;
    private static final int GREATEST = Expect.GREATEST;

    public static void main(String[] args) {
        Check.sentence("An object is used for at most 512 calls after it has been made", TermsTest::calls512);
        theCode();
        soundness();
        theBlocks();
        theRanks();
        theText();
        theStatements();
        theRuns();
        Check.sentence("Of several exceptions that apply the first one listed is thrown.",
                TermsTest::theFirstOneListed);
        Check.sentence("What throws or is refused changes nothing but as said.", TermsTest::changesNothing);
        Check.end();
    }

    private static void calls512() {
        // Three calls write and lift the code, and the 512th is the last of the rest.
        LoopLifter x = new LoopLifter();
        Check.same("call 1", x.add(9, 1), 0);
        Check.same("call 2", x.add(9, 0), 1);
        Check.same("call 3", x.lift(), 2);
        for (int call = 4; call < 512; call += 4) {
            int machine = call / 4 % 2;
            Check.same("call " + call, x.run(machine, 300), 300);
            Check.same("call " + (call + 1), x.done(machine, 299), 1);
            Check.isThrown("call " + (call + 2), Expect.ARGUMENT, () -> x.count(5));
            Check.same("call " + (call + 3), x.lift(), 2);
        }
        Check.same("call 512", x.add(11, 0), 2);
    }

    private static void theCode() {
        Check.sentence("CODE: at most 32 INSTRUCTIONS at PLACES 0, 1, ..", TermsTest::atMost32);
        Check.sentence("Each is an op and x (0 where it isn't named).", TermsTest::xIs0WhereItIsntNamed);
        Check.sentence("There are four VARIABLES 0 .. 3", TermsTest::fourVariables);
        Check.sentence("all numbers are ints and wrap", TermsTest::numbersWrap);
        Check.sentence("0 PUSH: puts x (any) on the stack.", TermsTest::push);
        Check.sentence("1 LOAD: puts variable x (0 .. 3).", TermsTest::load);
        Check.sentence("2 STORE: takes a number, variable x becomes it.", TermsTest::store);
        Check.sentence("takes b, then a, and puts a + b, a - b, a * b", TermsTest::takesBThenA);
        Check.sentence("1 if a is less than b, else 0", TermsTest::less);
        Check.sentence("1 if they are the same, else 0", TermsTest::same);
        Check.sentence("8 OUT: takes a number and puts it out.", TermsTest::out);
        Check.sentence("9 JUMP: the next place is x (0 .. 31).", TermsTest::jump);
        Check.sentence("10 ZERO: takes a number; if it is 0, the next place is x (0 .. 31).", TermsTest::zero);
        Check.sentence("11 STOP: the run ends.", TermsTest::stop);
    }

    private static void atMost32() {
        LoopLifter x = new LoopLifter();
        for (int place = 0; place < 31; place++) {
            Check.same("add", x.add(9, 31), place);
        }
        Check.same("the 32nd add", x.add(11, 0), 31);
        for (int op = 0; op < 12; op++) {
            Check.same("a 33rd add", x.add(op, 0), -1);
        }
        Check.same("lift of 32", x.lift(), 2);
        Expect.block(x, 31, 31, 1, 1, 0, 0);
        // As many blocks as there are places, all of which count.
        StringBuilder chain = new StringBuilder();
        for (int place = 0; place < 31; place++) {
            chain.append("JUMP ").append(place + 1).append(", ");
        }
        Expect.sound(chain + "STOP", 32);
        Expect.sound(chain + "JUMP 0", 32);
        Expect.text(chain + "JUMP 0", "L0:loop{again L0;}");
        // The longest block: its instructions before the last one are even in number.
        LoopLifter longest = Check.lifted(Expect.times(15, "LOAD 0, OUT") + ", STOP, STOP");
        Expect.block(longest, 0, 0, 31, 0, -1, 0);
    }

    private static void xIs0WhereItIsntNamed() {
        LoopLifter x = new LoopLifter();
        for (int op : new int[] {3, 4, 5, 6, 7, 8, 11}) {
            Expect.refused(x, op, 1, -1, 31, LEAST, GREATEST);
            Expect.added(x, op, 0);
        }
    }

    private static void fourVariables() {
        LoopLifter given = Check.lifted("STOP");
        for (int variable = 0; variable < 4; variable++) {
            Check.same("give", given.give(variable, 10 + variable), true);
        }
        given.run(0, 1);
        for (int variable = 0; variable < 4; variable++) {
            Check.same("value", given.value(0, variable), 10 + variable);
        }
        LoopLifter none = new LoopLifter();
        Expect.refused(none, 1, 4, -1);
        Expect.refused(none, 2, 4, -1);
        Check.same("give(4, 1)", given.give(4, 1), false);
        Check.isThrown("value(0, 4)", Expect.NO_ELEMENT, () -> given.value(0, 4));
    }

    private static void numbersWrap() {
        opAnswers("ADD", GREATEST, 1, LEAST);
        opAnswers("ADD", LEAST, LEAST, 0);
        opAnswers("SUB", LEAST, 1, GREATEST);
        opAnswers("SUB", 0, LEAST, LEAST);
        opAnswers("MUL", LEAST, -1, LEAST);
        opAnswers("MUL", 65536, 65536, 0);
        opAnswers("MUL", GREATEST, GREATEST, 1);
        Expect.outs("PUSH 2147483647, PUSH 2147483647, ADD, OUT, STOP", -2);
    }

    /** Once with variables and once with written numbers: both ways go through both machines. */
    private static void opAnswers(String op, int a, int b, int due) {
        LoopLifter lifted = Check.lifted("LOAD 1, LOAD 2, " + op + ", STORE 3, STOP");
        lifted.give(1, a);
        lifted.give(2, b);
        Expect.eachMachine(lifted, (x, machine) -> {
            x.run(machine, 1);
            Check.same(a + " " + op + " " + b, x.value(machine, 3), due);
        });
        Expect.outs("PUSH " + a + ", PUSH " + b + ", " + op + ", OUT, STOP", due);
    }

    private static void push() {
        Expect.added(new LoopLifter(), 0, 0, -1, 4, 32, LEAST, GREATEST);
        Expect.outs("PUSH -2147483648, OUT, PUSH 2147483647, OUT, PUSH 0, OUT, PUSH -1, OUT, STOP",
                LEAST, GREATEST, 0, -1);
    }

    private static void load() {
        LoopLifter x = new LoopLifter();
        Expect.added(x, 1, 0, 1, 2, 3);
        Expect.refused(x, 1, -1, 4, LEAST, GREATEST);
        LoopLifter lifted = Check.lifted("LOAD 3, OUT, LOAD 0, OUT, STOP");
        lifted.give(0, 8);
        lifted.give(3, 9);
        Expect.eachMachine(lifted, (y, machine) -> {
            y.run(machine, 1);
            Check.same("variable 3", y.out(machine, 1), 9);
            Check.same("variable 0", y.out(machine, 0), 8);
        });
    }

    private static void store() {
        LoopLifter x = new LoopLifter();
        Expect.added(x, 2, 0, 1, 2, 3);
        Expect.refused(x, 2, -1, 4, LEAST, GREATEST);
        LoopLifter lifted = Check.lifted("PUSH 5, STORE 0, PUSH 6, STORE 1, PUSH 7, STORE 2, PUSH 8, STORE 3, STOP");
        Expect.eachMachine(lifted, (y, machine) -> {
            y.run(machine, 1);
            for (int variable = 0; variable < 4; variable++) {
                Check.same("value", y.value(machine, variable), 5 + variable);
            }
        });
    }

    private static void takesBThenA() {
        opAnswers("ADD", 2, 3, 5);
        opAnswers("SUB", 2, 3, -1);
        opAnswers("SUB", 3, 2, 1);
        opAnswers("MUL", 6, -7, -42);
        Expect.outs("PUSH 9, PUSH 5, PUSH 3, SUB, SUB, OUT, STOP", 7);
    }

    private static void less() {
        opAnswers("LESS", 2, 3, 1);
        opAnswers("LESS", 3, 2, 0);
        opAnswers("LESS", 3, 3, 0);
        opAnswers("LESS", LEAST, GREATEST, 1);
        opAnswers("LESS", GREATEST, LEAST, 0);
        opAnswers("LESS", LEAST, LEAST, 0);
    }

    private static void same() {
        opAnswers("SAME", 3, 3, 1);
        opAnswers("SAME", 3, 4, 0);
        opAnswers("SAME", 3, -3, 0);
        opAnswers("SAME", LEAST, LEAST, 1);
        opAnswers("SAME", LEAST, GREATEST, 0);
        opAnswers("SAME", LEAST, 0, 0);
    }

    private static void out() {
        Expect.outs("PUSH 1, PUSH 2, PUSH 3, OUT, OUT, OUT, STOP", 3, 2, 1);
        Expect.outs("STOP");
    }

    private static void jump() {
        LoopLifter x = new LoopLifter();
        Expect.added(x, 9, 0, 31);
        Expect.refused(x, 9, -1, 32, LEAST, GREATEST);
        Expect.done("JUMP 31, " + Expect.times(30, "STOP") + ", JUMP 0", 0, 0, 31, 0, 31);
        Expect.done("JUMP 0", 0, 0, 0, 0);
    }

    private static void zero() {
        LoopLifter x = new LoopLifter();
        Expect.added(x, 10, 0, 31);
        Expect.refused(x, 10, -1, 32, LEAST, GREATEST);
        String code = "LOAD 0, ZERO 31, " + Expect.times(30, "STOP");
        Expect.done(code, 0, 0, 30);
        for (int number : new int[] {1, -1, 2, LEAST, GREATEST}) {
            Expect.done(code, number, 0, 1);
        }
        Expect.done("LOAD 0, ZERO 0, STOP", 0, 0, 0, 0);
    }

    private static void stop() {
        Expect.eachMachine(Check.lifted("PUSH 1, OUT, STOP, PUSH 2, OUT, STOP"), (x, machine) -> {
            Check.same("run", x.run(machine, 300), 1);
            Check.same("status", x.status(machine), 2);
            Check.same("outs", x.outs(machine), 1);
        });
    }

    private static void soundness() {
        Check.sentence("which is 0 at place 0 and behind each JUMP, ZERO and STOP", TermsTest::heightBegins);
        Check.sentence("A place is BAD if a JUMP or ZERO of the code names it and the height isn't 0 there",
                TermsTest::namedAtAHeight);
        Check.sentence("if its instruction takes more than there is", TermsTest::takesMoreThanThereIs);
        Check.sentence("if there are more than 6 then", TermsTest::moreThan6);
        Check.sentence("if it is a JUMP, ZERO or STOP and something is left on the stack", TermsTest::somethingIsLeft);
        Check.sentence("if it is a JUMP or ZERO that names a place which the code doesn't have",
                TermsTest::namesNoPlace);
        Check.sentence("if it is the last one and neither JUMP nor STOP", TermsTest::lastOne);
        Check.sentence("Code without instructions has the bad place 0.", TermsTest::noInstructions);
    }

    private static void heightBegins() {
        Expect.unsound("OUT, STOP", 0);
        Expect.unsound("JUMP 1, OUT, STOP", 1);
        Expect.unsound("PUSH 0, ZERO 2, OUT, STOP", 2);
        // A place is looked at even if there is no way to it.
        Expect.unsound("STOP, OUT, STOP", 1);
        String full = Expect.times(6, "PUSH 1") + ", " + Expect.times(5, "ADD");
        Expect.sound(full + ", ZERO 12, " + full + ", OUT, STOP", 2);
    }

    private static void namedAtAHeight() {
        Expect.unsound("PUSH 1, OUT, JUMP 1", 1);
        Expect.unsound("PUSH 1, OUT, PUSH 0, ZERO 1, STOP", 1);
        Expect.unsound("JUMP 2, PUSH 1, OUT, STOP", 2);
        Expect.unsound("PUSH 1, PUSH 2, ADD, OUT, PUSH 0, ZERO 2, STOP", 2);
        // It is so even if there is no way to the JUMP, nor to the place.
        Expect.unsound("PUSH 1, OUT, STOP, JUMP 1", 1);
        Expect.unsound("STOP, PUSH 1, OUT, JUMP 2", 2);
        Expect.sound("PUSH 1, OUT, PUSH 2, OUT, JUMP 2", 2);
        Expect.sound("PUSH 1, OUT, PUSH 0, ZERO 0, STOP", 2);
    }

    private static void takesMoreThanThereIs() {
        for (String op : new String[] {"ADD", "SUB", "MUL", "LESS", "SAME"}) {
            Expect.unsound(op + ", STOP", 0);
            Expect.unsound("PUSH 1, " + op + ", STOP", 1);
            Expect.sound("PUSH 1, PUSH 2, " + op + ", OUT, STOP", 1);
        }
        for (String op : new String[] {"STORE 0", "OUT", "ZERO 2"}) {
            Expect.unsound(op + ", STOP, STOP", 0);
            Expect.unsound("PUSH 1, STORE 1, " + op + ", STOP", 2);
        }
        Expect.sound("PUSH 1, STORE 0, PUSH 1, OUT, PUSH 1, ZERO 6, STOP", 2);
    }

    private static void moreThan6() {
        String six = Expect.times(3, "PUSH 1, LOAD 1");
        Expect.unsound(six + ", PUSH 1, STOP", 6);
        Expect.unsound(six + ", LOAD 1, STOP", 6);
        Expect.unsound(six + ", ADD, PUSH 1, PUSH 1, STOP", 8);
        // With six on the stack a sign is no place that is too many, and no number is lost.
        Expect.sound(six + ", ADD, PUSH 1, ADD, ADD, ADD, ADD, ADD, OUT, STOP", 1);
        Expect.outs("PUSH 1, PUSH 2, PUSH 3, PUSH 4, PUSH 5, PUSH 6, OUT, OUT, OUT, OUT, OUT, OUT, STOP",
                6, 5, 4, 3, 2, 1);
    }

    private static void somethingIsLeft() {
        Expect.unsound("PUSH 1, JUMP 2, STOP", 1);
        Expect.unsound("PUSH 1, STOP", 1);
        Expect.unsound("PUSH 1, PUSH 0, ZERO 3, STOP", 2);
        Expect.unsound("STOP, PUSH 1, STOP", 2);
        Expect.sound("PUSH 0, ZERO 2, STOP", 2);
    }

    private static void namesNoPlace() {
        Expect.unsound("JUMP 1", 0);
        Expect.unsound("STOP, JUMP 31", 1);
        Expect.unsound("PUSH 1, ZERO 3, STOP", 1);
        Expect.unsound("JUMP 31, " + Expect.times(30, "STOP"), 0);
        Expect.sound("JUMP 1, STOP", 2);
        Expect.sound("PUSH 1, ZERO 2, STOP", 2);
        Expect.sound("JUMP 31, " + Expect.times(31, "STOP"), 2);
        Expect.sound("JUMP 0", 1);
    }

    private static void lastOne() {
        Expect.unsound("PUSH 1", 0);
        Expect.unsound("PUSH 1, OUT", 1);
        Expect.unsound("PUSH 1, STORE 0", 1);
        Expect.unsound("PUSH 1, ZERO 0", 1);
        Expect.unsound("STOP, LOAD 0, OUT", 2);
        Expect.unsound(Expect.times(16, "LOAD 0, OUT"), 31);
        Expect.sound("STOP", 1);
        Expect.sound("JUMP 0", 1);
        // Before the last one any instruction may stand, and behind a STOP, too.
        Expect.sound("PUSH 1, ZERO 0, STOP", 2);
    }

    private static void noInstructions() {
        Expect.unsound("", 0);
        LoopLifter x = Check.written("PUSH 1, OUT");
        Check.isThrown("lift", Expect.ARGUMENT, x::lift);
        x.clear();
        Check.isThrown("lift behind clear", Expect.ARGUMENT, x::lift);
        Check.same("bad behind clear", x.bad(), 0);
    }

    private static void theBlocks() {
        Check.sentence("BLOCKS begin at place 0, at each place that a JUMP or ZERO names, and behind each",
                TermsTest::blocksBegin);
        Check.sentence("they are numbered from 0 on by their places", TermsTest::blocksAreNumbered);
        Check.sentence("with JUMP at its end, to the block at its place", TermsTest::edgeOfJump);
        Check.sentence("with ZERO, to the next block, and then to the one at its place", TermsTest::edgesOfZero);
        Check.sentence("with STOP none", TermsTest::noEdgeOfStop);
        Check.sentence("otherwise to the next block", TermsTest::edgeOfAnother);
        Check.sentence("A block counts only if there is a way to it from block 0.", TermsTest::blocksThatCount);
    }

    private static void blocksBegin() {
        Expect.blocks("STOP", 0, 0);
        Expect.blocks("LOAD 0, OUT, LOAD 0, OUT, JUMP 2", 0, 0, 2);
        Expect.blocks("LOAD 0, OUT, LOAD 0, ZERO 2, STOP", 0, 0, 2, 4);
        Expect.blocks("LOAD 0, ZERO 3, STOP, JUMP 5, STOP, STOP", 1, 2, 1, 1);
        Expect.blocks("JUMP 1, STOP", 0, 0, 1);
        // A place that is named twice, or named and behind a JUMP, begins one block.
        Expect.counts("LOAD 0, ZERO 4, LOAD 0, ZERO 4, STOP", 3);
        // A JUMP to which there is no way begins blocks, too.
        Expect.blocks("LOAD 0, OUT, LOAD 0, OUT, STOP, JUMP 2", 1, 2, 3);
    }

    private static void blocksAreNumbered() {
        // Block 2 is gone into before block 1, and block 4 can't be reached, yet has its number.
        LoopLifter x = Check.lifted("JUMP 3, LOAD 0, STORE 1, LOAD 0, ZERO 1, JUMP 7, STOP, STOP");
        Expect.block(x, 0, 0, 1);
        Expect.block(x, 1, 1, 2);
        Expect.block(x, 2, 3, 2);
        Expect.block(x, 3, 5, 1);
        Check.isThrown("block(4, 0)", Expect.NO_ELEMENT, () -> x.block(4, 0));
        Expect.block(x, 5, 7, 1);
    }

    private static void edgeOfJump() {
        Expect.done("JUMP 2, STOP, JUMP 4, STOP, STOP", 0, 0, 2, 4);
        Expect.counts("JUMP 2, STOP, JUMP 4, STOP, STOP", 3);
    }

    private static void edgesOfZero() {
        // What is gone into first is finished first and has the greater rank.
        Expect.blocks("LOAD 0, ZERO 3, STOP, STOP", 2, 0, 2, 1);
        Expect.done("LOAD 0, ZERO 3, STOP, STOP", 0, 0, 2);
        Expect.done("LOAD 0, ZERO 3, STOP, STOP", 1, 0, 1);
    }

    private static void noEdgeOfStop() {
        Expect.counts("STOP, STOP", 1, 0, 0);
        Expect.counts("STOP, JUMP 0", 1, 0, 0);
    }

    private static void edgeOfAnother() {
        Expect.done("LOAD 0, OUT, LOAD 0, ZERO 2, STOP", 0, 0, 1, 1);
        Expect.blocks("LOAD 0, OUT, LOAD 0, ZERO 2, STOP", 3, -1, 0, 1);
    }

    private static void blocksThatCount() {
        // Block 1 is no way to block 3: it makes no join of it, no head, no tangle, no temporary.
        LoopLifter x = Check.lifted("JUMP 3, LOAD 1, ZERO 5, PUSH 2, OUT, STOP");
        Check.same("blocks", x.count(0), 3);
        Check.same("joins", x.count(2), 0);
        Check.isThrown("block(1, 0)", Expect.NO_ELEMENT, () -> x.block(1, 0));
        Expect.block(x, 3, 5, 1, 2, 2, 0);
        Expect.counts("STOP, JUMP 1", 1, 0, 0);
        Expect.counts("STOP, JUMP 0", 1, 0, 0);
        Expect.counts("STOP, LOAD 0, PUSH 1, STORE 0, OUT, STOP", 1, 0, 0, 0, 5);
        Expect.sound("STOP, LOAD 0, ZERO 5, LOAD 1, ZERO 7, PUSH 1, STORE 1, PUSH 2, STORE 2, JUMP 3", 1);
        Expect.sound("JUMP 2, JUMP 3, JUMP 3, JUMP 2", 3);
    }

    private static void theRanks() {
        Check.sentence("as far as they weren't before", TermsTest::goneIntoOnce);
        Check.sentence("The last one finished has rank 0, the one before 1, and so on.", TermsTest::lastFinished);
        Check.sentence("An edge goes BACK if its target's rank isn't above its source's.", TermsTest::edgesBack);
        Check.sentence("A block d DOMINATES b if each way from block 0 to b comes by d (b itself does, too).",
                TermsTest::dominates);
        Check.sentence("The code is TANGLED if an edge goes back to a block that doesn't dominate its source.",
                TermsTest::tangled);
        Check.sentence("is that one of the others that dominate it which has the greatest rank", TermsTest::hosts);
        Check.sentence("A HEAD is a block to which an edge goes back.", TermsTest::heads);
        Check.sentence("two edges or more go that don't go back (two from the same block count, too).",
                TermsTest::joins);
    }

    private static void goneIntoOnce() {
        // Block 3 is gone into from block 1 and looked at again from block 0.
        Expect.blocks("LOAD 0, ZERO 5, LOAD 1, ZERO 5, STOP, STOP", 2, 0, 1, 3, 2);
        Expect.blocks("LOAD 0, ZERO 0, LOAD 0, ZERO 0, JUMP 2", 2, 0, 1, 2);
    }

    private static void lastFinished() {
        Expect.blocks("STOP", 2, 0);
        Expect.blocks("JUMP 1, JUMP 2, STOP", 2, 0, 1, 2);
        Expect.blocks(Expect.DIAMOND, 2, 0, 2, 1, 3);
        LoopLifter x = Check.lifted("JUMP 2, STOP, JUMP 3, STOP");
        Check.same("rank of block 2", x.block(2, 2), 1);
        Check.same("rank of block 3", x.block(3, 2), 2);
    }

    private static void edgesBack() {
        // From a block to itself the rank is the same.
        Expect.text("JUMP 0", "L0:loop{again L0;}");
        Expect.text("LOAD 0, ZERO 0, STOP", "L0:loop{if(a){stop;}else{again L0;}}");
        // Back to a smaller place is not back by rank.
        Expect.text("JUMP 2, STOP, JUMP 1", "stop;");
        Expect.counts("JUMP 2, STOP, JUMP 1", 3, 0, 0);
        // And forward to a greater place may be back.
        Expect.text("JUMP 3, LOAD 0, ZERO 3, JUMP 1", "L2:loop{if(a){again L2;}else{again L2;}}");
    }

    private static void dominates() {
        Expect.sound("JUMP 1, LOAD 0, ZERO 1, STOP", 3);
        // Of the two ways to block 3 each comes by block 0 alone.
        Expect.blocks(Expect.DIAMOND, 3, -1, 0, 0, 0);
        Expect.sound("LOAD 0, ZERO 3, JUMP 3, JUMP 0", 3);
        // A way may come by an edge that goes back: by blocks 3 and 2 to block 4, not by block 1.
        Expect.tangled("LOAD 0, ZERO 6, LOAD 1, OUT, LOAD 2, ZERO 7, JUMP 4, JUMP 2", 7);
    }

    private static void tangled() {
        Expect.tangled(Expect.TANGLED, Expect.TANGLED_PLACE);
        Expect.tangled("LOAD 0, ZERO 3, JUMP 3, JUMP 2", 3);
        // One way in and two ways back, or two ways out, are no tangle.
        Expect.sound("LOAD 0, ZERO 0, LOAD 1, ZERO 0, STOP", 3);
        Expect.sound("LOAD 0, ZERO 4, LOAD 1, ZERO 0, STOP", 3);
        // Nor are two edges into the head of a loop.
        Expect.sound("LOAD 0, ZERO 3, JUMP 3, JUMP 3", 3);
    }

    private static void hosts() {
        Expect.blocks("JUMP 1, JUMP 2, STOP", 3, -1, 0, 1);
        Expect.blocks("LOAD 0, ZERO 5, LOAD 1, ZERO 5, STOP, STOP", 3, -1, 0, 1, 0);
        // Behind a join the join is the host.
        Expect.blocks("LOAD 0, ZERO 3, JUMP 3, JUMP 4, STOP", 3, -1, 0, 0, 2);
        // Ranks count, not numbers: the way to block 3 comes by block 2 and then by block 1.
        Expect.blocks("JUMP 2, JUMP 3, JUMP 1, STOP", 3, -1, 2, 0, 1);
    }

    private static void heads() {
        Expect.counts("STOP", 1, 0);
        Expect.counts("JUMP 0", 1, 1);
        Expect.counts("LOAD 0, ZERO 0, LOAD 1, ZERO 0, STOP", 3, 1);
        Expect.counts("LOAD 0, ZERO 0, LOAD 1, ZERO 2, LOAD 2, ZERO 0, STOP", 4, 2);
    }

    private static void joins() {
        Expect.counts("LOAD 0, ZERO 2, STOP", 2, 0, 1);
        Expect.text("LOAD 3, ZERO 2, STOP", "B1:{if(d){break B1;}else{break B1;}}stop;");
        Expect.counts("LOAD 0, ZERO 5, LOAD 1, ZERO 5, JUMP 5, STOP", 4, 0, 1);
        Expect.counts("JUMP 1, STOP", 2, 0, 0);
        // An edge that goes back makes no join, not even two of them.
        Expect.counts("JUMP 1, LOAD 0, ZERO 1, STOP", 3, 1, 0);
        Expect.counts("JUMP 1, LOAD 0, ZERO 1, LOAD 0, ZERO 1, STOP", 4, 1, 0);
        Expect.counts("LOAD 0, ZERO 3, JUMP 3, LOAD 0, ZERO 3, STOP", 4, 1, 1);
    }

    private static void theText() {
        Check.sentence("no blanks but those behind \"out\", \"break\" and \"again\"", TermsTest::noBlanks);
        Check.sentence("if b is a head, \"L\", b's number, \":loop{\", the inner of b, \"}\"; else the inner of b.",
                TermsTest::trees);
        Check.sentence("for the joins whose host is b, by falling ranks", TermsTest::inners);
        Check.sentence("with STOP, \"stop;\"", TermsTest::bodyWithStop);
        Check.sentence("with ZERO, \"if(\", the expression that is taken, \"){\", the going to the next block",
                TermsTest::bodyWithZero);
        Check.sentence("otherwise the going to the target", TermsTest::bodyOtherwise);
        Check.sentence("\"again L\", c's number, \";\" if that edge goes back", TermsTest::goingBack);
        Check.sentence("\"break B\", c's number, \";\" if c is a join; else the tree of c", TermsTest::goingOn);
        Check.sentence("The whole text is the tree of block 0.", TermsTest::wholeText);
    }

    private static void noBlanks() {
        String code = "LOAD 0, ZERO 3, JUMP 3, LOAD 1, PUSH -1, ADD, OUT, LOAD 2, ZERO 3, STOP";
        Expect.text(code,
                "B2:{if(a){break B2;}else{break B2;}}L2:loop{out (b+(-1));if(c){stop;}else{again L2;}}");
        String text = Check.textOf(Check.code(code));
        int blanks = text.replaceAll("[^ ]", "").length();
        Check.same("blanks", blanks, text.split("out |break |again ", -1).length - 1);
    }

    private static void trees() {
        Expect.text("STOP", "stop;");
        Expect.text("JUMP 0", "L0:loop{again L0;}");
        Expect.text("JUMP 1, JUMP 1", "L1:loop{again L1;}");
        Expect.text("JUMP 1, JUMP 0", "L0:loop{again L0;}");
        // Numbers of two digits, the greatest there are.
        Expect.text("JUMP 10, " + Expect.times(9, "STOP") + ", JUMP 10", "L10:loop{again L10;}");
        Expect.text("JUMP 31, " + Expect.times(30, "STOP") + ", JUMP 31", "L31:loop{again L31;}");
        Expect.text("LOAD 0, ZERO 31, JUMP 31, " + Expect.times(29, "STOP"),
                "B30:{if(a){break B30;}else{break B30;}}stop;");
        // What comes behind the inner loop still lies in it.
        Expect.text("LOAD 0, ZERO 8, LOAD 1, ZERO 6, LOAD 2, ZERO 2, JUMP 0, STOP, STOP",
                "L0:loop{if(a){L1:loop{B3:{if(b){if(c){break B3;}else{again L1;}}else{break B3;}}again L0;}}"
                + "else{stop;}}");
    }

    private static void inners() {
        // The join of the greater rank is opened first and closed last.
        Expect.text("LOAD 0, ZERO 6, LOAD 1, ZERO 6, LOAD 2, ZERO 8, LOAD 3, OUT, STOP",
                "B4:{B3:{if(a){if(b){if(c){break B3;}else{break B4;}}else{break B3;}}else{break B3;}}"
                + "out d;break B4;}stop;");
        // By ranks, not by numbers: block 3 comes behind block 4.
        Expect.text("LOAD 0, ZERO 6, LOAD 1, ZERO 5, JUMP 6, STOP, LOAD 2, OUT, JUMP 5",
                "B3:{B4:{if(a){if(b){break B4;}else{break B3;}}else{break B4;}}out c;break B3;}stop;");
        // A join stands in the inner of its host, also of one that is a join itself.
        Expect.text("LOAD 0, ZERO 2, LOAD 1, ZERO 4, STOP",
                "B1:{if(a){break B1;}else{break B1;}}B2:{if(b){break B2;}else{break B2;}}stop;");
        // A block that is both a join and a head.
        Expect.text("LOAD 0, ZERO 4, PUSH 1, OUT, LOAD 1, ZERO 4, STOP",
                "B2:{if(a){out 1;break B2;}else{break B2;}}L2:loop{if(b){stop;}else{again L2;}}");
    }

    private static void bodyWithStop() {
        Expect.text("PUSH 1, OUT, STOP, PUSH 2, OUT, STOP", "out 1;stop;");
    }

    private static void bodyWithZero() {
        Expect.text("LOAD 0, ZERO 3, STOP, PUSH 1, OUT, STOP", "if(a){stop;}else{out 1;stop;}");
        Expect.text("PUSH -5, ZERO 3, STOP, STOP", "if((-5)){stop;}else{stop;}");
        Expect.text("LOAD 0, PUSH 1, LESS, ZERO 5, STOP, STOP", "if((a<1)){stop;}else{stop;}");
        // The expression is what is left behind the statements: a temporary, too.
        Expect.text("LOAD 0, PUSH 1, STORE 0, ZERO 5, STOP, STOP", "t0=a;a=1;if(t0){stop;}else{stop;}");
    }

    private static void bodyOtherwise() {
        Expect.text("PUSH 1, OUT, JUMP 3, PUSH 2, OUT, STOP", "out 1;out 2;stop;");
        Expect.text("PUSH 1, OUT, PUSH 2, OUT, JUMP 2", "out 1;L1:loop{out 2;again L1;}");
    }

    private static void goingBack() {
        // Back to a block that is a join, too, it is "again".
        Expect.text("LOAD 0, ZERO 3, JUMP 3, JUMP 3", "B2:{if(a){break B2;}else{break B2;}}L2:loop{again L2;}");
        // To the outer loop out of the inner one.
        Expect.text("LOAD 0, OUT, LOAD 1, ZERO 2, JUMP 0", "L0:loop{out a;L1:loop{if(b){again L0;}else{again L1;}}}");
    }

    private static void goingOn() {
        Expect.text(Expect.DIAMOND, "B3:{if(a){b=1;break B3;}else{b=2;break B3;}}out b;stop;");
        Expect.text("JUMP 1, PUSH 1, OUT, STOP", "out 1;stop;");
        // A join is broken to even if both ways into it come from its host.
        Expect.text("LOAD 0, ZERO 2, PUSH 1, OUT, STOP", "B1:{if(a){break B1;}else{break B1;}}out 1;stop;");
    }

    private static void wholeText() {
        Expect.text(Expect.COUNTING, Expect.COUNTING_TEXT);
        // As many ifs as 32 places have room for, each behind the block of the one before.
        StringBuilder code = new StringBuilder();
        StringBuilder text = new StringBuilder();
        for (int n = 1; n <= 15; n++) {
            code.append("PUSH -2147483648, ZERO ").append(2 * n).append(", ");
            text.append("B#:{if((-2147483648)){break B#;}else{break B#;}}".replace("#", "" + n));
        }
        Expect.text(code + "STOP", text + "stop;");
    }

    private static void theStatements() {
        Check.sentence("PUSH puts x, in parentheses if it is below 0", TermsTest::writtenNumbers);
        Check.sentence("LOAD the variable, a, b, c or d", TermsTest::writtenVariables);
        Check.sentence("the signs put \"(\", a, the sign + - * < =, b, \")\"", TermsTest::writtenSigns);
        Check.sentence("OUT writes \"out \", the expression, \";\".", TermsTest::writtenOuts);
        Check.sentence("in which that variable stands becomes, from the lowest on, the next TEMPORARY",
                TermsTest::expressionsLeft);
        Check.sentence("\"t\", its number (from 0 on in each block)", TermsTest::temporaryNumbers);
        Check.sentence("and the temporary stands for it; then the variable, \"=\", e, \";\"",
                TermsTest::temporaryStands);
    }

    private static void writtenNumbers() {
        Expect.text("PUSH -1, OUT, PUSH 0, OUT, PUSH 1, OUT, STOP", "out (-1);out 0;out 1;stop;");
        Expect.text("PUSH -2147483648, OUT, PUSH 2147483647, OUT, STOP", "out (-2147483648);out 2147483647;stop;");
        Expect.text("PUSH 9, OUT, PUSH 10, OUT, PUSH 1000, OUT, PUSH -10, OUT, PUSH -1000000000, OUT, STOP",
                "out 9;out 10;out 1000;out (-10);out (-1000000000);stop;");
        Expect.text("PUSH -7, STORE 0, PUSH 3, PUSH -7, SUB, ZERO 7, STOP, STOP",
                "a=(-7);if((3-(-7))){stop;}else{stop;}");
    }

    private static void writtenVariables() {
        Expect.text("LOAD 0, OUT, LOAD 1, OUT, LOAD 2, OUT, LOAD 3, OUT, STOP", "out a;out b;out c;out d;stop;");
        Expect.text("PUSH 1, STORE 0, PUSH 1, STORE 1, PUSH 1, STORE 2, PUSH 1, STORE 3, STOP",
                "a=1;b=1;c=1;d=1;stop;");
    }

    private static void writtenSigns() {
        Expect.text("LOAD 0, PUSH 1, ADD, LOAD 1, SUB, LOAD 2, MUL, LOAD 3, LESS, PUSH 0, SAME, OUT, STOP",
                "out (((((a+1)-b)*c)<d)=0);stop;");
        Expect.text("LOAD 0, LOAD 1, LOAD 2, SUB, SUB, OUT, STOP", "out (a-(b-c));stop;");
        // The deepest there is: six on the stack, and a row of signs over 32 places.
        Expect.text(Expect.times(6, "LOAD 0") + ", " + Expect.times(5, "SUB") + ", OUT, STOP",
                "out (a-(a-(a-(a-(a-a)))));stop;");
        Expect.text("LOAD 0, " + Expect.times(14, "LOAD 1, ADD") + ", OUT, STOP",
                "out " + "(".repeat(14) + "a" + "+b)".repeat(14) + ";stop;");
    }

    private static void writtenOuts() {
        Expect.text("LOAD 0, LOAD 1, OUT, OUT, STOP", "out b;out a;stop;");
        // OUT takes no variable away from what is left on the stack.
        Expect.counts("LOAD 0, LOAD 0, OUT, OUT, STOP", 1, 0, 0, 0);
    }

    private static void expressionsLeft() {
        Expect.text("LOAD 0, LOAD 0, PUSH 7, STORE 0, STORE 1, STORE 2, STOP", "t0=a;t1=a;a=7;b=t1;c=t0;stop;");
        // All that may be left: five, as STORE takes the sixth.
        Expect.text(Expect.times(5, "LOAD 0") + ", PUSH 7, STORE 0, " + Expect.times(5, "OUT") + ", STOP",
                "t0=a;t1=a;t2=a;t3=a;t4=a;a=7;out t4;out t3;out t2;out t1;out t0;stop;");
        // What is stored is no longer left, and where the variable doesn't stand, nothing becomes one.
        Expect.text("LOAD 0, PUSH 1, ADD, STORE 0, STOP", "a=(a+1);stop;");
        Expect.text("LOAD 1, PUSH 7, PUSH 1, STORE 0, OUT, OUT, STOP", "a=1;out 7;out b;stop;");
        Expect.text("LOAD 3, LOAD 0, LOAD 2, PUSH 1, STORE 0, OUT, OUT, OUT, STOP",
                "t0=a;a=1;out c;out t0;out d;stop;");
        // It may stand deep in an expression, on either side, and more than once.
        Expect.text("LOAD 1, PUSH 2, LOAD 0, MUL, ADD, LOAD 0, LOAD 0, SUB, PUSH 1, STORE 0, OUT, OUT, STOP",
                "t0=(b+(2*a));t1=(a-a);a=1;out t1;out t0;stop;");
        Expect.text("LOAD 0, PUSH 2, MUL, LOAD 1, ADD, PUSH 1, STORE 0, OUT, STOP", "t0=((a*2)+b);a=1;out t0;stop;");
    }

    private static void temporaryNumbers() {
        Expect.text("LOAD 3, PUSH 1, STORE 3, OUT, JUMP 5, LOAD 3, PUSH 1, STORE 3, OUT, STOP",
                "t0=d;d=1;out t0;t0=d;d=1;out t0;stop;");
        // Within a block the numbers go on, up to two digits.
        StringBuilder text = new StringBuilder();
        for (int first = 0; first < 10; first += 5) {
            for (int number = first; number < first + 5; number++) {
                text.append("t").append(number).append("=a;");
            }
            text.append("a=1;");
            for (int number = first + 4; number >= first; number--) {
                text.append("out t").append(number).append(";");
            }
        }
        String five = Expect.times(5, "LOAD 0") + ", PUSH 1, STORE 0, " + Expect.times(5, "OUT");
        String code = five + ", " + five + ", LOAD 0, PUSH 1, STORE 0, OUT, STOP";
        Expect.text(code, text + "t10=a;a=1;out t10;stop;");
        Expect.counts(code, 1, 0, 0, 11);
    }

    private static void temporaryStands() {
        // A temporary holds no variable, so it never becomes another one by itself.
        Expect.text("LOAD 0, PUSH 1, STORE 0, PUSH 2, STORE 0, OUT, STOP", "t0=a;a=1;a=2;out t0;stop;");
        // But what is made with it and holds the variable does.
        Expect.text("LOAD 0, PUSH 1, STORE 0, LOAD 0, ADD, PUSH 2, STORE 0, OUT, STOP",
                "t0=a;a=1;t1=(t0+a);a=2;out t1;stop;");
        Expect.text("LOAD 0, LOAD 1, ADD, LOAD 1, STORE 1, OUT, STOP", "t0=(a+b);b=b;out t0;stop;");
        // The expression that is stored keeps the variables in it.
        Expect.text("LOAD 0, LOAD 0, STORE 0, OUT, STOP", "t0=a;a=a;out t0;stop;");
    }

    private static void theRuns() {
        Check.sentence("\"if\" goes into the first part if its expression isn't 0, else into the second",
                TermsTest::ifs);
        Check.sentence("\"break B\" goes on behind the \"}\" of that block", TermsTest::breaks);
        Check.sentence("\"again L\" goes on at the beginning of that loop", TermsTest::agains);
        Check.sentence("In both a block is DONE when its instructions, or what came of them, were done",
                TermsTest::doneBlocks);
        Check.sentence("Temporaries are numbers of their own.", TermsTest::temporariesOfTheirOwn);
    }

    private static void ifs() {
        for (int number : new int[] {1, -1, 256, 65536, LEAST, GREATEST}) {
            Expect.done("LOAD 0, ZERO 3, STOP, STOP", number, 0, 1);
        }
        Expect.done("LOAD 0, ZERO 3, STOP, STOP", 0, 0, 2);
    }

    private static void breaks() {
        // Block 3 and, behind it, block 4 are broken to from several depths.
        String code = "LOAD 0, ZERO 8, LOAD 0, PUSH 1, SAME, ZERO 8, LOAD 0, ZERO 10, LOAD 3, OUT, STOP";
        Expect.done(code, 0, 0, 3, 4);
        Expect.done(code, 1, 0, 1, 2, 3, 4);
        Expect.done(code, 2, 0, 1, 3, 4);
        String over = "LOAD 0, ZERO 6, LOAD 0, PUSH 1, SAME, ZERO 8, LOAD 3, OUT, STOP";
        Expect.done(over, 0, 0, 2, 3);
        Expect.done(over, 1, 0, 1, 2, 3);
        Expect.done(over, 2, 0, 1, 3);
    }

    private static void agains() {
        Expect.done("JUMP 0", 0, 0, 0, 0);
        // To the outer loop and to the inner one.
        String code = "LOAD 3, OUT, LOAD 0, ZERO 2, JUMP 0";
        Expect.done(code, 0, 0, 1, 1, 1);
        Expect.done(code, 1, 0, 1, 2, 0, 1, 2, 0);
    }

    private static void doneBlocks() {
        // Of a block that is a JUMP alone nothing stands in the text; it is done all the same.
        Expect.done("JUMP 1, JUMP 2, JUMP 0", 0, 0, 1, 2, 0, 1);
        Expect.done("JUMP 1, STOP", 0, 0, 1);
        Expect.done("LOAD 0, ZERO 2, STOP", 0, 0, 1);
        // A run that is cut off has done its last block whole.
        Expect.eachMachine(Check.lifted("PUSH 1, OUT, PUSH 2, OUT, JUMP 0"), (x, machine) -> {
            Check.same("run", x.run(machine, 1), 1);
            Check.same("outs", x.outs(machine), 2);
        });
    }

    private static void temporariesOfTheirOwn() {
        LoopLifter swap = Check.lifted("LOAD 0, LOAD 1, STORE 0, STORE 1, STOP");
        swap.give(0, 8);
        swap.give(1, 9);
        Expect.eachMachine(swap, (x, machine) -> {
            x.run(machine, 1);
            Check.same("swapped", x.value(machine, 0), 9);
            Check.same("swapped", x.value(machine, 1), 8);
            Check.same("not touched", x.value(machine, 2), 0);
            Check.same("not touched", x.value(machine, 3), 0);
        });
        Expect.outs("PUSH 3, STORE 0, " + Expect.times(4, "LOAD 0") + ", PUSH 7, STORE 0, LOAD 0, OUT, "
                + Expect.times(4, "OUT") + ", STOP", 7, 3, 3, 3, 3);
    }

    private static void theFirstOneListed() {
        LoopLifter both = Check.written(Expect.TANGLED + ", PUSH 1, STOP");
        Check.isThrown("lift of unsound and tangled code", Expect.ARGUMENT, both::lift);
        Check.same("its bad place", both.bad(), 10);
        LoopLifter none = new LoopLifter();
        Check.isThrown("count(5) of nothing", Expect.STATE, () -> none.count(5));
        Check.isThrown("block(9, 0) of nothing", Expect.STATE, () -> none.block(9, 0));
        Check.isThrown("block(0, 9) of nothing", Expect.STATE, () -> none.block(0, 9));
        Check.isThrown("block(9, 9) of nothing", Expect.STATE, () -> none.block(9, 9));
        Check.isThrown("run(2, 1) of nothing", Expect.STATE, () -> none.run(2, 1));
        Check.isThrown("run(0, 301) of nothing", Expect.STATE, () -> none.run(0, 301));
        LoopLifter x = Check.lifted("STOP, STOP");
        Check.isThrown("block(1, 5)", Expect.NO_ELEMENT, () -> x.block(1, 5));
        Check.isThrown("block(-1, -1)", Expect.NO_ELEMENT, () -> x.block(-1, -1));
    }

    private static void changesNothing() {
        String due = Expect.allAnswers(inUse());
        String[] names = {"add", "add", "count", "block", "block", "give", "run", "run", "value", "out"};
        for (int call = 0; call < names.length; call++) {
            LoopLifter x = inUse();
            refusedCall(x, call);
            Check.same("bad behind a refused " + names[call], x.bad(), 0);
            Check.same("all answers behind a refused " + names[call], Expect.allAnswers(x), due);
        }
    }

    /** With something lifted, a run of each machine, another code, numbers given, and a bad place. */
    private static LoopLifter inUse() {
        LoopLifter x = new LoopLifter();
        Check.isThrown("lift of nothing", Expect.ARGUMENT, x::lift);
        Check.write(x, Check.code(Expect.COUNTING)).lift();
        x.run(0, 300);
        x.run(1, 4);
        x.give(0, 1);
        x.give(3, 4);
        return Check.write(x, Check.code("LOAD 1, OUT, LOAD 0, ZERO 0"));
    }

    private static void refusedCall(LoopLifter x, int call) {
        switch (call) {
            case 0 -> Check.same("add(12, 0)", x.add(12, 0), -1);
            case 1 -> Check.same("add(9, 32)", x.add(9, 32), -1);
            case 2 -> Check.isThrown("count(5)", Expect.ARGUMENT, () -> x.count(5));
            case 3 -> Check.isThrown("block(3, 0)", Expect.NO_ELEMENT, () -> x.block(3, 0));
            case 4 -> Check.isThrown("block(0, 5)", Expect.ARGUMENT, () -> x.block(0, 5));
            case 5 -> Check.same("give(4, 7)", x.give(4, 7), false);
            case 6 -> Check.isThrown("run(2, 5)", Expect.ARGUMENT, () -> x.run(2, 5));
            case 7 -> Check.isThrown("run(0, 301)", Expect.ARGUMENT, () -> x.run(0, 301));
            case 8 -> Check.isThrown("value(0, 4)", Expect.NO_ELEMENT, () -> x.value(0, 4));
            default -> Check.isThrown("out(0, 3)", Expect.NO_ELEMENT, () -> x.out(0, 3));
        }
    }
}
