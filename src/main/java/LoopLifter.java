import java.util.NoSuchElementException;

/**
 * Lifts the code of a small stack machine, with its jumps, to a program of loops, labelled blocks,
 * breaks and ifs, without any jump and without a variable that steers; refuses code that has a loop
 * with two ways into it; writes the program as text; and runs both.
 *
 * <p>Every row is made once, in a constructor, and used again by each call, so that a long run of
 * calls stays small.
 */
public final class LoopLifter {

    private static final int PLACES = 32;
    private static final int VARIABLES = 4;
    private static final int STACK = 6;
    private static final int LONGEST_RUN = 300;
    private static final int KEPT_OUTS = 20;

    /** Stands for no block, no place, no expression and no further step. */
    private static final int NONE = -1;

    private static final int PUSH = 0;
    private static final int LOAD = 1;
    private static final int STORE = 2;
    private static final int ADD = 3;
    private static final int SUB = 4;
    private static final int MUL = 5;
    private static final int LESS = 6;
    private static final int SAME = 7;
    private static final int OUT = 8;
    private static final int JUMP = 9;
    private static final int ZERO = 10;
    private static final int STOP = 11;

    /** What each op takes from the stack and puts on it. */
    private static final int[] TAKES = {0, 0, 1, 2, 2, 2, 2, 2, 1, 0, 1, 0};
    private static final int[] PUTS = {1, 1, 0, 1, 1, 1, 1, 1, 0, 0, 0, 0};

    /** Behind the ops: an expression that is a temporary, and the statement that sets one. */
    private static final int TEMPORARY = 12;

    private final Code code;
    private final Flow trial;
    private final Flow flow;
    private final Statements statements;
    private final Program program;
    private final Machine codeMachine;
    private final Machine textMachine;
    private final int[] given;
    private boolean anythingLifted;
    private int badPlace;

    public LoopLifter() {
        code = new Code();
        trial = new Flow();
        flow = new Flow();
        statements = new Statements();
        program = new Program(flow, statements);
        codeMachine = new CodeMachine(flow);
        textMachine = new TextMachine(flow, statements, program);
        given = new int[VARIABLES];
        anythingLifted = false;
        badPlace = NONE;
    }

    public int add(int op, int x) {
        return code.accepts(op, x) ? code.append(op, x) : NONE;
    }

    public void clear() {
        code.size = 0;
    }

    public int lift() throws IllegalArgumentException, UnsupportedOperationException {
        int unsound = code.firstBadPlace();
        if (unsound != NONE) {
            badPlace = unsound;
            throw new IllegalArgumentException("the code is not sound");
        }
        // A refused lift leaves what was lifted before, so the code is tried out beside it.
        trial.read(code);
        int tangled = trial.firstTangledPlace();
        if (tangled != NONE) {
            badPlace = tangled;
            throw new UnsupportedOperationException("the code is tangled");
        }
        flow.read(code);
        statements.read(flow);
        program.write();
        codeMachine.latest.forget();
        textMachine.latest.forget();
        anythingLifted = true;
        return flow.counted;
    }

    public int bad() {
        return badPlace;
    }

    public int count(int what) throws IllegalStateException, IllegalArgumentException {
        if (!anythingLifted) {
            throw new IllegalStateException("nothing was lifted");
        }
        switch (what) {
            case 0:
                return flow.counted;
            case 1:
                return Integer.bitCount(flow.heads);
            case 2:
                return Integer.bitCount(flow.joins);
            case 3:
                return statements.temporaries;
            case 4:
                return program.written.length;
            default:
                throw new IllegalArgumentException("what is 0 .. 4");
        }
    }

    public int block(int b, int what)
            throws IllegalStateException, NoSuchElementException, IllegalArgumentException {
        if (!anythingLifted) {
            throw new IllegalStateException("nothing was lifted");
        }
        if (!flow.counts(b)) {
            throw new NoSuchElementException("no such block counts");
        }
        switch (what) {
            case 0:
                return flow.starts[b];
            case 1:
                return flow.starts[b + 1] - flow.starts[b];
            case 2:
                return flow.ranks[b];
            case 3:
                return flow.hosts[b];
            case 4:
                return program.loopsAround[b];
            default:
                throw new IllegalArgumentException("what is 0 .. 4");
        }
    }

    public char text(int i) {
        return program.written.characterAt(i);
    }

    public boolean give(int variable, int value) {
        if (!isVariable(variable)) {
            return false;
        }
        given[variable] = value;
        return true;
    }

    public int run(int machine, int blocks) throws IllegalStateException, IllegalArgumentException {
        if (!anythingLifted) {
            throw new IllegalStateException("nothing was lifted");
        }
        Machine asked = machineOf(machine);
        if (asked == null || blocks < 0 || blocks > LONGEST_RUN) {
            throw new IllegalArgumentException("a machine is 0 or 1, blocks are 0 .. 300");
        }
        return asked.perform(given, blocks);
    }

    public int status(int machine) {
        Machine asked = machineOf(machine);
        return asked == null ? NONE : asked.latest.state;
    }

    public int done(int machine, int k) {
        Machine asked = machineOf(machine);
        return asked == null ? NONE : asked.latest.doneBlock(k);
    }

    public int value(int machine, int variable) throws NoSuchElementException {
        Machine asked = machineOf(machine);
        if (asked == null || asked.latest.state == Run.MISSING || !isVariable(variable)) {
            throw new NoSuchElementException("no such run or variable");
        }
        return asked.latest.variables[variable];
    }

    public int outs(int machine) {
        Machine asked = machineOf(machine);
        if (asked == null || asked.latest.state == Run.MISSING) {
            return NONE;
        }
        return asked.latest.outCount;
    }

    public int out(int machine, int k) throws NoSuchElementException {
        Machine asked = machineOf(machine);
        if (asked == null || !asked.latest.keepsOut(k)) {
            throw new NoSuchElementException("no such number was put out or kept");
        }
        return asked.latest.keptOut(k);
    }

    private Machine machineOf(int machine) {
        if (machine == 0) {
            return codeMachine;
        }
        return machine == 1 ? textMachine : null;
    }

    private static boolean isVariable(int variable) {
        return variable >= 0 && variable < VARIABLES;
    }

    /** A set of blocks or places is an int with a bit for each: there are at most 32. */
    private static boolean holds(int set, int member) {
        return ((set >>> member) & 1) != 0;
    }

    private static boolean endsBlock(int op) {
        return op == JUMP || op == ZERO || op == STOP;
    }

    private static boolean namesPlace(int op) {
        return op == JUMP || op == ZERO;
    }

    /** Instructions, as they are written or as they were lifted. */
    private static final class Code {
        final int[] ops = new int[PLACES];
        final int[] xs = new int[PLACES];
        int size = 0;

        boolean accepts(int op, int x) {
            if (size >= PLACES) {
                return false;
            }
            switch (op) {
                case PUSH:
                    return true;
                case LOAD:
                case STORE:
                    return isVariable(x);
                case JUMP:
                case ZERO:
                    return x >= 0 && x < PLACES;
                default:
                    return op >= ADD && op <= STOP && x == 0;
            }
        }

        int append(int op, int x) {
            ops[size] = op;
            xs[size] = x;
            size++;
            return size - 1;
        }

        void copyFrom(Code other) {
            System.arraycopy(other.ops, 0, ops, 0, PLACES);
            System.arraycopy(other.xs, 0, xs, 0, PLACES);
            size = other.size;
        }

        int namedPlaces() {
            int named = 0;
            for (int place = 0; place < size; place++) {
                if (namesPlace(ops[place])) {
                    named |= 1 << xs[place];
                }
            }
            return named;
        }

        /** Only the first bad place is asked for, so the height behind it doesn't matter. */
        int firstBadPlace() {
            if (size == 0) {
                return 0;
            }
            int named = namedPlaces();
            int height = 0;
            for (int place = 0; place < size; place++) {
                int op = ops[place];
                if ((height != 0 && holds(named, place)) || height < TAKES[op]) {
                    return place;
                }
                height = height - TAKES[op] + PUTS[op];
                if (height > STACK || (height != 0 && endsBlock(op)) || leadsNowhere(place)) {
                    return place;
                }
            }
            return NONE;
        }

        private boolean leadsNowhere(int place) {
            int op = ops[place];
            if (namesPlace(op) && xs[place] >= size) {
                return true;
            }
            return place == size - 1 && op != JUMP && op != STOP;
        }
    }

    /** The blocks of sound code, their edges, and what follows from the edges. */
    private static final class Flow {
        final Code code = new Code();
        /** One more than there are blocks: behind the last one stands the end of the code. */
        final int[] starts = new int[PLACES + 1];
        final int[] blockAt = new int[PLACES];
        final int[] firstEdges = new int[PLACES];
        final int[] secondEdges = new int[PLACES];
        final int[] ranks = new int[PLACES];
        final int[] byRank = new int[PLACES];
        final int[] dominators = new int[PLACES];
        final int[] hosts = new int[PLACES];
        int blocks = 0;
        int counted = 0;
        int heads = 0;
        int joins = 0;
        private int goneInto = 0;

        void read(Code source) {
            code.copyFrom(source);
            findBlocks();
            findEdges();
            findRanks();
            findDominators();
            findHosts();
            findHeadsAndJoins();
        }

        boolean counts(int b) {
            return b >= 0 && b < blocks && ranks[b] != NONE;
        }

        int lastPlace(int b) {
            return starts[b + 1] - 1;
        }

        int lastOp(int b) {
            return code.ops[lastPlace(b)];
        }

        boolean goesBack(int from, int to) {
            return ranks[to] <= ranks[from];
        }

        private void findBlocks() {
            int named = code.namedPlaces();
            blocks = 0;
            for (int place = 0; place < code.size; place++) {
                if (place == 0 || holds(named, place) || endsBlock(code.ops[place - 1])) {
                    starts[blocks] = place;
                    blocks++;
                }
                blockAt[place] = blocks - 1;
            }
            starts[blocks] = code.size;
        }

        private void findEdges() {
            for (int b = 0; b < blocks; b++) {
                int op = lastOp(b);
                int named = namesPlace(op) ? blockAt[code.xs[lastPlace(b)]] : NONE;
                firstEdges[b] = op == JUMP ? named : op == STOP ? NONE : b + 1;
                secondEdges[b] = op == ZERO ? named : NONE;
            }
        }

        private void findRanks() {
            for (int b = 0; b < blocks; b++) {
                ranks[b] = NONE;
            }
            goneInto = 0;
            counted = 0;
            goInto(0, 0);
            // goInto() numbers the blocks as they are finished; the last one finished is to be 0.
            for (int b = 0; b < blocks; b++) {
                if (ranks[b] != NONE) {
                    ranks[b] = counted - 1 - ranks[b];
                    byRank[ranks[b]] = b;
                }
            }
        }

        private void goInto(int b, int depth) {
            if (b == NONE || depth >= PLACES + 1 || holds(goneInto, b)) {
                return;
            }
            goneInto |= 1 << b;
            goInto(firstEdges[b], depth + 1);
            goInto(secondEdges[b], depth + 1);
            ranks[b] = counted;
            counted++;
        }

        /** Begins with all blocks and takes away what an edge rules out, until nothing changes. */
        private void findDominators() {
            for (int b = 0; b < blocks; b++) {
                dominators[b] = -1;
            }
            dominators[0] = 1;
            boolean changed = true;
            for (int pass = 0; pass <= PLACES && changed; pass++) {
                changed = false;
                for (int rank = 0; rank < counted; rank++) {
                    int b = byRank[rank];
                    changed |= narrow(b, firstEdges[b]);
                    changed |= narrow(b, secondEdges[b]);
                }
            }
        }

        private boolean narrow(int from, int to) {
            if (to == NONE) {
                return false;
            }
            int before = dominators[to];
            dominators[to] = before & (dominators[from] | (1 << to));
            return dominators[to] != before;
        }

        private void findHosts() {
            for (int b = 0; b < blocks; b++) {
                hosts[b] = NONE;
                for (int rank = 0; rank < counted && ranks[b] != NONE; rank++) {
                    int other = byRank[rank];
                    if (other != b && holds(dominators[b], other)) {
                        hosts[b] = other;
                    }
                }
            }
        }

        private void findHeadsAndJoins() {
            heads = 0;
            joins = 0;
            int entered = 0;
            for (int rank = 0; rank < counted; rank++) {
                int b = byRank[rank];
                entered = enter(b, firstEdges[b], entered);
                entered = enter(b, secondEdges[b], entered);
            }
        }

        private int enter(int from, int to, int entered) {
            if (to == NONE) {
                return entered;
            }
            if (goesBack(from, to)) {
                heads |= 1 << to;
                return entered;
            }
            if (holds(entered, to)) {
                joins |= 1 << to;
            }
            return entered | (1 << to);
        }

        int firstTangledPlace() {
            for (int rank = 0; rank < counted; rank++) {
                int b = byRank[rank];
                if (entersLoopAside(b, firstEdges[b]) || entersLoopAside(b, secondEdges[b])) {
                    return starts[b];
                }
            }
            return NONE;
        }

        private boolean entersLoopAside(int from, int to) {
            return to != NONE && goesBack(from, to) && !holds(dominators[from], to);
        }
    }

    /** Sound code never takes from an empty stack nor puts on a full one; still nothing breaks. */
    private static final class NumberStack {
        final int[] numbers = new int[STACK];
        int height = 0;

        void put(int number) {
            if (height < STACK) {
                numbers[height] = number;
                height++;
            }
        }

        int take() {
            if (height == 0) {
                return 0;
            }
            height--;
            return numbers[height];
        }
    }

    /**
     * What comes of the instructions of the blocks that count: statements, and the expressions in
     * them as nodes. An instruction makes at most one node and one statement; a temporary makes one
     * of each and uses up at least one LOAD, so twice the places are enough for both.
     */
    private static final class Statements {
        private static final int ROWS = 2 * PLACES;

        /** PUSH, LOAD, a sign's op, or TEMPORARY. */
        final int[] nodeKinds = new int[ROWS];
        /** The number, the variable, the temporary, or for a sign the left expression. */
        final int[] nodeLefts = new int[ROWS];
        final int[] nodeRights = new int[ROWS];
        /** The set of variables that stand in the expression. */
        private final int[] nodeVariables = new int[ROWS];

        /** STORE, OUT or TEMPORARY, with the variable or temporary that is set. */
        final int[] kinds = new int[ROWS];
        final int[] targets = new int[ROWS];
        final int[] expressions = new int[ROWS];

        final int[] firsts = new int[PLACES];
        final int[] ends = new int[PLACES];
        /** The expression that the ZERO of a block takes. */
        final int[] conditions = new int[PLACES];
        int temporaries = 0;

        private final NumberStack stack = new NumberStack();
        private int nodes = 0;
        private int statementCount = 0;
        private int blockTemporaries = 0;

        void read(Flow flow) {
            nodes = 0;
            statementCount = 0;
            temporaries = 0;
            for (int rank = 0; rank < flow.counted; rank++) {
                readBlock(flow, flow.byRank[rank]);
            }
        }

        private void readBlock(Flow flow, int b) {
            stack.height = 0;
            blockTemporaries = 0;
            firsts[b] = statementCount;
            conditions[b] = NONE;
            for (int place = flow.starts[b]; place < flow.starts[b + 1]; place++) {
                readInstruction(b, flow.code.ops[place], flow.code.xs[place]);
            }
            ends[b] = statementCount;
            temporaries += blockTemporaries;
        }

        private void readInstruction(int b, int op, int x) {
            switch (op) {
                case PUSH:
                    stack.put(node(PUSH, x, NONE, 0));
                    break;
                case LOAD:
                    stack.put(node(LOAD, x, NONE, 1 << x));
                    break;
                case STORE:
                    store(x, stack.take());
                    break;
                case OUT:
                    write(OUT, NONE, stack.take());
                    break;
                case ZERO:
                    conditions[b] = stack.take();
                    break;
                case JUMP:
                case STOP:
                    break;
                default:
                    int right = stack.take();
                    int left = stack.take();
                    stack.put(node(op, left, right, nodeVariables[left] | nodeVariables[right]));
                    break;
            }
        }

        private void store(int variable, int expression) {
            for (int i = 0; i < stack.height; i++) {
                if (holds(nodeVariables[stack.numbers[i]], variable)) {
                    write(TEMPORARY, blockTemporaries, stack.numbers[i]);
                    stack.numbers[i] = node(TEMPORARY, blockTemporaries, NONE, 0);
                    blockTemporaries++;
                }
            }
            write(STORE, variable, expression);
        }

        private int node(int kind, int left, int right, int variables) {
            if (nodes >= ROWS) {
                return 0;
            }
            nodeKinds[nodes] = kind;
            nodeLefts[nodes] = left;
            nodeRights[nodes] = right;
            nodeVariables[nodes] = variables;
            nodes++;
            return nodes - 1;
        }

        private void write(int kind, int target, int expression) {
            if (statementCount >= ROWS) {
                return;
            }
            kinds[statementCount] = kind;
            targets[statementCount] = target;
            expressions[statementCount] = expression;
            statementCount++;
        }
    }

    /** A row of characters that is written from its beginning. */
    private static final class Text {
        /**
         * An instruction writes at most 13 characters of its own; a block, which has at least one,
         * at most 10 for a loop, 6 for a label, 12 for an if and 20 for where it goes. That is less
         * than 64 for each of 32 places.
         */
        private static final int LONGEST = 64 * PLACES;
        private static final int HIGHEST_POWER = 1000000000;

        private final char[] characters = new char[LONGEST];
        int length = 0;

        char characterAt(int i) {
            return i >= 0 && i < length ? characters[i] : (char) 0;
        }

        void put(char c) {
            if (length < LONGEST) {
                characters[length] = c;
                length++;
            }
        }

        void putAll(String word) {
            for (int i = 0; i < word.length(); i++) {
                put(word.charAt(i));
            }
        }

        /**
         * In parentheses if it is below 0, which no label is. Digits are taken from the number as it
         * is, as the least int has no positive one.
         */
        void putNumber(int number) {
            if (number < 0) {
                put('(');
                put('-');
            }
            boolean begun = false;
            for (int power = HIGHEST_POWER; power > 0; power /= 10) {
                int digit = Math.abs(number / power % 10);
                begun = begun || digit != 0 || power == 1;
                if (begun) {
                    put((char) ('0' + digit));
                }
            }
            if (number < 0) {
                put(')');
            }
        }

        void putLabelled(String before, int label, String behind) {
            putAll(before);
            putNumber(label);
            putAll(behind);
        }
    }

    /**
     * The text, and beside it the steps that machine 1 follows. A step is the body of a block, or a
     * "break" or "again"; a body has at most two of these behind it.
     */
    private static final class Program {
        static final int BODY = 0;
        static final int BREAK = 1;
        static final int AGAIN = 2;
        private static final int STEPS = 3 * PLACES;
        private static final String SIGNS = "+-*<=";

        final Text written = new Text();
        final int[] stepKinds = new int[STEPS];
        final int[] stepBlocks = new int[STEPS];
        /** The steps at which loops begin, that stand behind labelled blocks, and behind "else". */
        final int[] loopSteps = new int[PLACES];
        final int[] behindSteps = new int[PLACES];
        final int[] elseSteps = new int[PLACES];
        final int[] loopsAround = new int[PLACES];

        private final Flow flow;
        private final Statements statements;
        private int steps = 0;
        private int openLoops = 0;

        Program(Flow flow, Statements statements) {
            this.flow = flow;
            this.statements = statements;
        }

        void write() {
            written.length = 0;
            steps = 0;
            openLoops = 0;
            tree(0, 0);
        }

        private void tree(int b, int depth) {
            // A tree lies in the tree of its host, and no block is its own host's host.
            if (depth >= PLACES) {
                return;
            }
            boolean head = holds(flow.heads, b);
            if (head) {
                written.putLabelled("L", b, ":loop{");
                loopSteps[b] = steps;
                openLoops++;
            }
            inner(b, depth);
            if (head) {
                written.put('}');
                openLoops--;
            }
        }

        private void inner(int b, int depth) {
            for (int rank = flow.counted - 1; rank >= 0; rank--) {
                if (isJoinOf(flow.byRank[rank], b)) {
                    written.putLabelled("B", flow.byRank[rank], ":{");
                }
            }
            body(b, depth);
            for (int rank = 0; rank < flow.counted; rank++) {
                int join = flow.byRank[rank];
                if (isJoinOf(join, b)) {
                    written.put('}');
                    behindSteps[join] = steps;
                    tree(join, depth + 1);
                }
            }
        }

        private boolean isJoinOf(int b, int host) {
            return holds(flow.joins, b) && flow.hosts[b] == host;
        }

        private void body(int b, int depth) {
            loopsAround[b] = openLoops;
            step(BODY, b);
            for (int s = statements.firsts[b]; s < statements.ends[b]; s++) {
                statement(s);
            }
            if (flow.firstEdges[b] == NONE) {
                written.putAll("stop;");
            } else if (flow.secondEdges[b] == NONE) {
                going(b, flow.firstEdges[b], depth);
            } else {
                written.putAll("if(");
                expression(statements.conditions[b], 0);
                written.putAll("){");
                going(b, flow.firstEdges[b], depth);
                written.putAll("}else{");
                elseSteps[b] = steps;
                going(b, flow.secondEdges[b], depth);
                written.put('}');
            }
        }

        private void going(int from, int to, int depth) {
            if (flow.goesBack(from, to)) {
                written.putLabelled("again L", to, ";");
                step(AGAIN, to);
            } else if (holds(flow.joins, to)) {
                written.putLabelled("break B", to, ";");
                step(BREAK, to);
            } else {
                tree(to, depth + 1);
            }
        }

        private void step(int kind, int b) {
            if (steps < STEPS) {
                stepKinds[steps] = kind;
                stepBlocks[steps] = b;
                steps++;
            }
        }

        private void statement(int s) {
            switch (statements.kinds[s]) {
                case OUT:
                    written.putAll("out ");
                    break;
                case TEMPORARY:
                    written.putLabelled("t", statements.targets[s], "=");
                    break;
                default:
                    written.put((char) ('a' + statements.targets[s]));
                    written.put('=');
                    break;
            }
            expression(statements.expressions[s], 0);
            written.put(';');
        }

        private void expression(int node, int depth) {
            // Each level takes an instruction of its own.
            if (depth >= PLACES) {
                return;
            }
            int kind = statements.nodeKinds[node];
            int left = statements.nodeLefts[node];
            switch (kind) {
                case PUSH:
                    written.putNumber(left);
                    break;
                case LOAD:
                    written.put((char) ('a' + left));
                    break;
                case TEMPORARY:
                    written.put('t');
                    written.putNumber(left);
                    break;
                default:
                    written.put('(');
                    expression(left, depth + 1);
                    written.put(SIGNS.charAt(kind - ADD));
                    expression(statements.nodeRights[node], depth + 1);
                    written.put(')');
                    break;
            }
        }

        /** The body that a step leads to: behind "break" and "again" one always begins at once. */
        int bodyFrom(int step) {
            int b = stepBlocks[step];
            if (stepKinds[step] == BREAK) {
                return behindSteps[b];
            }
            return stepKinds[step] == AGAIN ? loopSteps[b] : step;
        }
    }

    /** What is known of a machine's latest run. */
    private static final class Run {
        static final int MISSING = 0;
        static final int CUT_OFF = 1;
        static final int ENDED = 2;

        final int[] variables = new int[VARIABLES];
        int state = MISSING;
        int blockCount = 0;
        int outCount = 0;
        private final int[] blocks = new int[LONGEST_RUN];
        /** The latest numbers put out, each at its count modulo the row's length. */
        private final int[] latestOuts = new int[KEPT_OUTS];

        void forget() {
            state = MISSING;
            blockCount = 0;
            outCount = 0;
        }

        void begin(int[] given) {
            forget();
            System.arraycopy(given, 0, variables, 0, VARIABLES);
        }

        void finish(boolean ended) {
            state = ended ? ENDED : CUT_OFF;
        }

        void noteBlock(int b) {
            if (blockCount < LONGEST_RUN) {
                blocks[blockCount] = b;
                blockCount++;
            }
        }

        int doneBlock(int k) {
            return k >= 0 && k < blockCount ? blocks[k] : NONE;
        }

        void noteOut(int number) {
            latestOuts[outCount % KEPT_OUTS] = number;
            outCount++;
        }

        boolean keepsOut(int k) {
            return k >= 0 && k < KEPT_OUTS && k < outCount;
        }

        int keptOut(int k) {
            return latestOuts[(outCount - 1 - k) % KEPT_OUTS];
        }
    }

    /** Does blocks one by one; where it is between two of them is a number of its own. */
    private abstract static class Machine {
        final Run latest = new Run();

        int perform(int[] given, int blocks) {
            latest.begin(given);
            int at = 0;
            for (int n = 0; n < blocks && at != NONE; n++) {
                at = doBlock(at);
            }
            latest.finish(at == NONE);
            return latest.blockCount;
        }

        /** Does the block that comes at that point: where to go on, NONE behind a STOP. */
        abstract int doBlock(int at);

        static int calculate(int op, int a, int b) {
            switch (op) {
                case ADD:
                    return a + b;
                case SUB:
                    return a - b;
                case MUL:
                    return a * b;
                case LESS:
                    return a < b ? 1 : 0;
                default:
                    return a == b ? 1 : 0;
            }
        }
    }

    /** Machine 0: it is always at a block. */
    private static final class CodeMachine extends Machine {
        private final Flow flow;
        private final NumberStack stack = new NumberStack();

        CodeMachine(Flow flow) {
            this.flow = flow;
        }

        @Override
        int doBlock(int b) {
            stack.height = 0;
            boolean zero = false;
            for (int place = flow.starts[b]; place < flow.starts[b + 1]; place++) {
                if (flow.code.ops[place] == ZERO) {
                    zero = stack.take() == 0;
                } else {
                    doInstruction(flow.code.ops[place], flow.code.xs[place]);
                }
            }
            latest.noteBlock(b);
            return zero ? flow.secondEdges[b] : flow.firstEdges[b];
        }

        private void doInstruction(int op, int x) {
            switch (op) {
                case PUSH:
                    stack.put(x);
                    break;
                case LOAD:
                    stack.put(latest.variables[x]);
                    break;
                case STORE:
                    latest.variables[x] = stack.take();
                    break;
                case OUT:
                    latest.noteOut(stack.take());
                    break;
                case JUMP:
                case STOP:
                    break;
                default:
                    int b = stack.take();
                    int a = stack.take();
                    stack.put(calculate(op, a, b));
                    break;
            }
        }
    }

    /** Machine 1: it is always at a step of the program. */
    private static final class TextMachine extends Machine {
        private final Flow flow;
        private final Statements statements;
        private final Program program;
        private final int[] temporaries = new int[PLACES];

        TextMachine(Flow flow, Statements statements, Program program) {
            this.flow = flow;
            this.statements = statements;
            this.program = program;
        }

        @Override
        int doBlock(int at) {
            int step = program.bodyFrom(at);
            int b = program.stepBlocks[step];
            for (int s = statements.firsts[b]; s < statements.ends[b]; s++) {
                doStatement(s);
            }
            int condition = statements.conditions[b];
            boolean zero = condition != NONE && evaluate(condition, 0) == 0;
            latest.noteBlock(b);
            if (flow.firstEdges[b] == NONE) {
                return NONE;
            }
            return zero ? program.elseSteps[b] : step + 1;
        }

        private void doStatement(int s) {
            int number = evaluate(statements.expressions[s], 0);
            switch (statements.kinds[s]) {
                case OUT:
                    latest.noteOut(number);
                    break;
                case STORE:
                    latest.variables[statements.targets[s]] = number;
                    break;
                default:
                    temporaries[statements.targets[s]] = number;
                    break;
            }
        }

        private int evaluate(int node, int depth) {
            // Each level takes an instruction of its own.
            if (depth >= PLACES) {
                return 0;
            }
            int kind = statements.nodeKinds[node];
            int left = statements.nodeLefts[node];
            switch (kind) {
                case PUSH:
                    return left;
                case LOAD:
                    return latest.variables[left];
                case TEMPORARY:
                    return temporaries[left];
                default:
                    int a = evaluate(left, depth + 1);
                    int b = evaluate(statements.nodeRights[node], depth + 1);
                    return calculate(kind, a, b);
            }
        }
    }
}
