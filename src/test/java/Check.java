import java.util.function.Supplier;

/** What the tests share: each wrong answer is printed, and finish() ends with exit code 1 if there was one. */
final class Check {
    private static final Class<?> INDEX = IndexOutOfBoundsException.class;
    private static final Class<?> ARGUMENT = IllegalArgumentException.class;
    private static final Class<?> STATE = IllegalStateException.class;

    private static String sentence = "";
    private static int checked = 0;
    private static int wrong = 0;

    private Check() {
    }

    /** The words of the document that the answers from here on are about; they are printed with a wrong one. */
    static void sentence(String words) {
        sentence = "'" + words + "': ";
    }

    static void equal(String what, Object got, Object due) {
        checked++;
        if (!got.equals(due)) {
            wrong++;
            System.out.println(sentence + what + " answered " + got + ", due is " + due);
        }
    }

    static void isTrue(String what, boolean holds) {
        equal(what, holds, true);
    }

    static void badIndex(BarometerLeague x, String call, Supplier<Object> run) {
        refused(x, call, run, INDEX);
    }

    static void badArgument(BarometerLeague x, String call, Supplier<Object> run) {
        refused(x, call, run, ARGUMENT);
    }

    static void badState(BarometerLeague x, String call, Supplier<Object> run) {
        refused(x, call, run, STATE);
    }

    /** A refused call throws exactly this class, by a statement of its own, and changes nothing that the digest tells. */
    private static void refused(BarometerLeague x, String call, Supplier<Object> run, Class<?> due) {
        long before = x.digest();
        Object got;
        try {
            got = run.get();
        } catch (RuntimeException e) {
            got = e.getClass();
            isTrue(call + " is refused by the program, not by the library", isThrownByTheProgram(e));
        }
        equal(call, got, due);
        equal("digest() behind the refused " + call, x.digest(), before);
    }

    private static boolean isThrownByTheProgram(RuntimeException e) {
        StackTraceElement[] calls = e.getStackTrace();
        return calls.length > 0 && calls[0].getClassName().startsWith("BarometerLeague");
    }

    static void finish() {
        System.out.println(checked + " answers checked, " + wrong + " wrong");
        if (wrong != 0 || checked == 0) {
            System.exit(1);
        }
    }
}
