/** Counts the answers that are not as due, and prints each of them. */
final class Checks {
    interface Call {
        Object answer();
    }

    interface Act {
        void run();
    }

    static final Class<?> ARGUMENT = IllegalArgumentException.class;
    static final Class<?> STATE = IllegalStateException.class;
    static final Class<?> INDEX = IndexOutOfBoundsException.class;

    private int made = 0;
    private int wrong = 0;
    private String words = "";

    /** One test of a sentence of the document: what is wrong in it is printed behind the sentence's words. */
    void sentence(String itsWords, Act test) {
        int madeBefore = made;
        words = "\"" + itsWords + "\": ";
        try {
            test.run();
        } catch (RuntimeException thrown) {
            wrong++;
            System.out.println(words + "the test ended with " + thrown);
        }
        same("there are checks", true, made > madeBefore);
        words = "";
    }

    void due(String what, long want, Call call) {
        same(what, want, outcome(call));
    }

    void due(String what, boolean want, Call call) {
        same(what, want, outcome(call));
    }

    /** The class must be the very one: what the Java machine throws by itself is a class below it. */
    void dueThrow(String what, Class<?> want, Call call) {
        same(what, want, outcome(call));
    }

    void same(String what, Object want, Object got) {
        made++;
        if (!want.equals(got)) {
            wrong++;
            System.out.println(words + what + " answered " + got + ", due is " + want);
        }
    }

    boolean allRight() {
        return wrong == 0;
    }

    void end() {
        System.out.println(wrong == 0 ? "all answers are as due" : wrong + " answers are not as due");
        if (wrong != 0) {
            System.exit(1);
        }
    }

    /** An answer as a Long or Boolean, or the class of what was thrown. */
    static Object outcome(Call call) {
        try {
            Object answer = call.answer();
            return answer instanceof Integer ? Long.valueOf((Integer) answer) : answer;
        } catch (RuntimeException thrown) {
            return isThrownByACall(thrown) ? thrown.getClass() : thrown + ", not by a throw of its own";
        }
    }

    /** A list of the library throws the very class that is due for an index: where it was made tells it apart. */
    private static boolean isThrownByACall(RuntimeException thrown) {
        StackTraceElement[] trace = thrown.getStackTrace();
        if (trace.length == 0) {
            return false;
        }
        String maker = trace[0].getClassName();
        return maker.startsWith("KeyedFolds") || maker.startsWith("PlainModel");
    }

    static Call act(Act act) {
        return () -> {
            act.run();
            return 0L;
        };
    }
}
