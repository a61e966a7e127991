import java.util.Arrays;
import java.util.List;
import java.util.function.IntSupplier;

/** What the tests share: code written as words, the text of an object, and the comparing. */
final class Check {
    static final List<String> WORDS = Arrays.asList(
            "PUSH", "LOAD", "STORE", "ADD", "SUB", "MUL", "LESS", "SAME", "OUT", "JUMP", "ZERO", "STOP");

    /** Far enough below the 512 calls that an object is used for, with a code of 32 to add. */
    private static final int CHARACTERS_AN_OBJECT = 400;

    private static int compared = 0;
    private static int wrong = 0;
    private static int sentences = 0;
    private static String words = "";

    private Check() {}

    /** Runs the test of one sentence of the document; what is wrong in it is told with its words. */
    static void sentence(String itsWords, Runnable test) {
        int before = compared;
        words = "\"" + itsWords + "\": ";
        sentences++;
        try {
            test.run();
        } catch (RuntimeException e) {
            tellWrong("the test ended with " + e);
        }
        if (compared == before) {
            tellWrong("the test compared nothing");
        }
        words = "";
    }

    private static void tellWrong(String what) {
        wrong++;
        System.out.println(words + what);
    }

    static void same(String what, Object got, Object due) {
        compared++;
        if (!got.equals(due)) {
            tellWrong(what + " answered " + got + ", due is " + due);
        }
    }

    static void isThrown(String what, Class<? extends RuntimeException> due, IntSupplier call) {
        compared++;
        String got;
        try {
            got = "" + call.getAsInt();
        } catch (RuntimeException e) {
            if (e.getClass() == due) {
                return;
            }
            got = e.getClass().getName();
        }
        tellWrong(what + " answered " + got + ", due is " + due.getName());
    }

    static void end() {
        String tested = sentences == 0 ? "" : sentences + " sentences tested, ";
        System.out.println(tested + compared + " answers compared, " + wrong + " wrong");
        if (wrong != 0 || compared == 0) {
            System.exit(1);
        }
    }

    static boolean isRight() {
        return wrong == 0;
    }

    /** "LOAD 0, ZERO 3" as rows of op and x. */
    static int[][] code(String written) {
        if (written.isEmpty()) {
            return new int[0][];
        }
        String[] parts = written.split(", *");
        int[][] code = new int[parts.length][];
        for (int i = 0; i < parts.length; i++) {
            String[] words = parts[i].trim().split(" ");
            int op = WORDS.indexOf(words[0]);
            if (op < 0) {
                throw new IllegalArgumentException(parts[i]);
            }
            code[i] = new int[] {op, words.length > 1 ? Integer.parseInt(words[1]) : 0};
        }
        return code;
    }

    static String words(int[][] code) {
        StringBuilder all = new StringBuilder();
        for (int[] instruction : code) {
            all.append(all.length() == 0 ? "" : ", ").append(WORDS.get(instruction[0]));
            all.append(instruction[1] == 0 ? "" : " " + instruction[1]);
        }
        return all.toString();
    }

    static LoopLifter write(LoopLifter x, int[][] code) {
        x.clear();
        for (int i = 0; i < code.length; i++) {
            same("add of " + words(code) + " at " + i, x.add(code[i][0], code[i][1]), i);
        }
        return x;
    }

    static LoopLifter written(String code) {
        return write(new LoopLifter(), code(code));
    }

    static LoopLifter lifted(String code) {
        LoopLifter x = written(code);
        x.lift();
        return x;
    }

    /** The text that is lifted from the code, over as many objects as its length needs. */
    static String textOf(int[][] code) {
        StringBuilder all = new StringBuilder();
        int length = 1;
        while (all.length() < length) {
            LoopLifter x = write(new LoopLifter(), code);
            x.lift();
            length = x.count(4);
            int end = Math.min(length, all.length() + CHARACTERS_AN_OBJECT);
            for (int i = all.length(); i < end; i++) {
                all.append(x.text(i));
            }
            same("the character behind the text", (int) x.text(length), 0);
        }
        return all.toString();
    }
}
