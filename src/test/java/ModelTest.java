import java.util.ArrayList;
import java.util.List;
import java.util.Random;

/** Random codes, always the same ones, against the model and the runner of the text. */
final class ModelTest {
    private static final int CODES = 20000;
    private static final int[] NUMBERS = {0, 1, 2, 3, -1, -2, 10, 77, -345, Integer.MIN_VALUE, Integer.MAX_VALUE};

    private static int unsound = 0;
    private static int tangled = 0;
    private static int lifted = 0;
    private static int endedRuns = 0;
    private static int longest = 0;
    private static final int[] WHATS = new int[5];

    public static void main(String[] args) {
        Random random = new Random(20261115);
        compare(longChain(), new int[4], 300);
        compare(nestedLoops(), new int[4], 300);
        compare(longTexts(), new int[4], 300);
        for (int n = 0; n < CODES && Check.isRight(); n++) {
            int[][] code = randomCode(random);
            int[] given = new int[4];
            for (int i = 0; i < 4; i++) {
                given[i] = random.nextBoolean() ? random.nextInt(4) : NUMBERS[random.nextInt(NUMBERS.length)];
            }
            compare(code, given, random.nextInt(4) == 0 ? random.nextInt(301) : 300);
        }
        System.out.println(unsound + " not sound, " + tangled + " tangled, " + lifted + " lifted, " + endedRuns
                + " runs ended, longest text " + longest + ", most blocks " + WHATS[0] + ", heads " + WHATS[1]
                + ", joins " + WHATS[2] + ", temporaries " + WHATS[3]);
        Check.same("enough of each kind", unsound > 500 && tangled > 500 && lifted > 5000 && endedRuns > 2000, true);
        Check.end();
    }

    /** 32 blocks, each the host of the next one. */
    private static int[][] longChain() {
        int[][] code = new int[32][];
        for (int place = 0; place < 31; place++) {
            code[place] = new int[] {Model.JUMP, place + 1};
        }
        code[31] = new int[] {Model.STOP, 0};
        return code;
    }

    /** Ten loops in one another: forward into the next one, and from the last one back to each. */
    private static int[][] nestedLoops() {
        int[][] code = new int[31][];
        for (int place = 0; place < 10; place++) {
            code[place] = new int[] {Model.JUMP, place + 1};
        }
        for (int n = 0; n < 10; n++) {
            code[10 + 2 * n] = new int[] {1, n % 4};
            code[11 + 2 * n] = new int[] {Model.ZERO, 9 - n};
        }
        code[30] = new int[] {Model.STOP, 0};
        return code;
    }

    /** The longest numbers, each in a block with an if of its own. */
    private static int[][] longTexts() {
        int[][] code = new int[32][];
        for (int n = 0; n < 15; n++) {
            code[2 * n] = new int[] {0, Integer.MIN_VALUE};
            code[2 * n + 1] = new int[] {Model.ZERO, n % 2 == 0 ? 30 : 2 * n};
        }
        code[30] = new int[] {Model.STOP, 0};
        code[31] = new int[] {Model.STOP, 0};
        return code;
    }

    /** Pieces with a sound stack, each ended by a jump or by nothing; a few are spoilt afterwards. */
    private static int[][] randomCode(Random random) {
        List<int[]> code = new ArrayList<>();
        List<Integer> empty = new ArrayList<>();
        int size = 1 + random.nextInt(32);
        int most = random.nextInt(4) == 0 ? 10 : random.nextInt(4);
        boolean jumpsAlone = random.nextInt(10) == 0;
        while (code.size() < size) {
            empty.add(code.size());
            randomPiece(random, code, jumpsAlone ? 0 : most);
            int kind = jumpsAlone ? 6 + random.nextInt(3) : random.nextInt(10);
            if (kind < 6) {
                code.add(new int[] {1, random.nextInt(4)});
                code.add(new int[] {Model.ZERO, -1});
            } else if (kind < 8) {
                code.add(new int[] {Model.JUMP, -1});
            } else if (kind < 9) {
                code.add(new int[] {Model.STOP, 0});
            }
        }
        while (code.size() > 31) {
            code.remove(code.size() - 1);
        }
        code.add(new int[] {random.nextInt(4) == 0 ? Model.JUMP : Model.STOP, 0});
        empty.add(code.size() - 1);
        int end = code.size();
        empty.removeIf(place -> place >= end);
        for (int[] instruction : code) {
            if (instruction[1] < 0 && instruction[0] >= Model.JUMP) {
                instruction[1] = empty.get(random.nextInt(empty.size()));
            }
        }
        if (random.nextInt(12) == 0) {
            spoil(random, code.get(random.nextInt(code.size())));
        }
        return code.toArray(new int[0][]);
    }

    private static void randomPiece(Random random, List<int[]> code, int most) {
        int height = 0;
        int length = random.nextInt(most + 1);
        for (int n = 0; n < length || height > 0; n++) {
            boolean mayPut = n < length && height < 6;
            if (mayPut && (height == 0 || random.nextInt(2) == 0)) {
                boolean push = random.nextInt(3) == 0;
                code.add(new int[] {push ? 0 : 1, push ? NUMBERS[random.nextInt(NUMBERS.length)] : random.nextInt(4)});
                height++;
            } else if (height > 1 && random.nextInt(2) == 0) {
                code.add(new int[] {3 + random.nextInt(5), 0});
                height--;
            } else {
                boolean store = random.nextInt(3) != 0;
                code.add(new int[] {store ? 2 : 8, store ? random.nextInt(4) : 0});
                height--;
            }
        }
    }

    private static void spoil(Random random, int[] instruction) {
        instruction[0] = random.nextInt(12);
        boolean names = instruction[0] == Model.JUMP || instruction[0] == Model.ZERO;
        instruction[1] = names ? random.nextInt(32) : instruction[0] <= 2 ? random.nextInt(4) : 0;
    }

    private static void compare(int[][] code, int[] given, int blocks) {
        String name = Check.words(code);
        Model model = new Model(code);
        LoopLifter x = Check.write(new LoopLifter(), code);
        if (model.firstBad() >= 0) {
            unsound++;
            Check.isThrown("lift of " + name, IllegalArgumentException.class, x::lift);
            Check.same("bad of " + name, x.bad(), model.firstBad());
            return;
        }
        model.findBlocks();
        if (model.tangledPlace() >= 0) {
            tangled++;
            Check.isThrown("lift of " + name, UnsupportedOperationException.class, x::lift);
            Check.same("bad of " + name, x.bad(), model.tangledPlace());
            return;
        }
        lifted++;
        Check.same("lift of " + name, x.lift(), model.finished.size());
        String text = model.tree(0);
        compareCounts(name, x, model, text);
        Check.same("text of " + name, Check.textOf(code), text);
        compareBlocks(name, x, model);
        model.run(given, blocks);
        compareRuns(code, given, blocks, model);
        if (model.ended) {
            endedRuns++;
            compareText(name, text, given, model);
        }
    }

    private static void compareCounts(String name, LoopLifter x, Model model, String text) {
        int heads = 0;
        int joins = 0;
        for (int b : model.finished) {
            heads += model.isHead(b) ? 1 : 0;
            joins += model.isJoin(b) ? 1 : 0;
        }
        int[] due = {model.finished.size(), heads, joins, model.temporaries, text.length()};
        for (int what = 0; what < due.length; what++) {
            Check.same("count(" + what + ") of " + name, x.count(what), due[what]);
            WHATS[what] = Math.max(WHATS[what], due[what]);
        }
        longest = Math.max(longest, text.length());
    }

    private static void compareBlocks(String name, LoopLifter x, Model model) {
        for (int b = 0; b < 32; b++) {
            int asked = b;
            if (!model.finished.contains(b)) {
                Check.isThrown("block of " + name, java.util.NoSuchElementException.class, () -> x.block(asked, 0));
                continue;
            }
            int start = model.starts.get(b);
            int[] due = {start, model.end(b) - start, model.rank(b), model.host(b), model.loops(b)};
            for (int what = 0; what < due.length; what++) {
                Check.same("block(" + b + ", " + what + ") of " + name, x.block(b, what), due[what]);
            }
        }
    }

    private static void compareRuns(int[][] code, int[] given, int blocks, Model model) {
        String name = Check.words(code);
        for (int machine = 0; machine < 2; machine++) {
            LoopLifter x = Check.write(new LoopLifter(), code);
            x.lift();
            for (int variable = 0; variable < 4; variable++) {
                x.give(variable, given[variable]);
            }
            Check.same("run of " + name, x.run(machine, blocks), model.done.size());
            Check.same("status of " + name, x.status(machine), model.ended ? 2 : 1);
            for (int k = 0; k < model.done.size(); k++) {
                Check.same("done(" + machine + ", " + k + ") of " + name, x.done(machine, k), model.done.get(k));
            }
            Check.same("done behind the end", x.done(machine, model.done.size()), -1);
            for (int variable = 0; variable < 4; variable++) {
                Check.same("value of " + name, x.value(machine, variable), model.variables[variable]);
            }
            int outs = model.outs.size();
            Check.same("outs of " + name, x.outs(machine), outs);
            for (int k = 0; k < Math.min(outs, 20); k++) {
                Check.same("out of " + name, x.out(machine, k), model.outs.get(outs - 1 - k));
            }
        }
    }

    private static void compareText(String name, String text, int[] given, Model model) {
        TextRunner runner = new TextRunner(text, given);
        Check.same("the end of the text of " + name, runner.run(1000000), true);
        Check.same("what the text of " + name + " puts out", runner.outs, model.outs);
        for (int i = 0; i < 4; i++) {
            Check.same("a variable of the text of " + name, runner.numbers.get("abcd".substring(i, i + 1)),
                    model.variables[i]);
        }
    }
}
