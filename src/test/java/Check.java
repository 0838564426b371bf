import java.util.function.IntConsumer;

/** What the tests share: it compares answers with those that are due, and counts. */
final class Check {
    private static int right;
    private static int wrong;

    interface Call {
        void make();
    }

    private Check() {
    }

    static void due(String call, long want, long got) {
        count(got == want, call + " answered " + got + ", due is " + want);
    }

    static void due(String call, double want, double got) {
        count(got == want, call + " answered " + got + ", due is " + want);
    }

    static void due(String call, boolean want, boolean got) {
        count(got == want, call + " answered " + got + ", due is " + want);
    }

    /** The call throws just this exception, and changes nothing. */
    static void dueThrow(String call, Class<? extends RuntimeException> want, ArrowField field, Call made) {
        long before = field.digest();
        Class<?> got = null;
        try {
            made.make();
        } catch (RuntimeException e) {
            got = e.getClass();
        }
        count(got == want, call + " threw " + got + ", due is " + want);
        due("digest() after " + call + " that threw", before, field.digest());
    }

    static void dueIndex(String call, ArrowField field, Call made) {
        dueThrow(call, IndexOutOfBoundsException.class, field, made);
    }

    static void dueArgument(String call, ArrowField field, Call made) {
        dueThrow(call, IllegalArgumentException.class, field, made);
    }

    static void dueState(String call, ArrowField field, Call made) {
        dueThrow(call, IllegalStateException.class, field, made);
    }

    /** The call throws IllegalArgumentException for what is less than the least or more than the most. */
    static void dueArgumentBeside(String call, ArrowField field, int least, int most, IntConsumer made) {
        for (int value : beside(least, most)) {
            dueArgument(call + " of " + value, field, () -> made.accept(value));
        }
    }

    /** The call throws IndexOutOfBoundsException for what is not one of so many numbers from 0 on. */
    static void dueIndexBeside(String call, ArrowField field, int many, IntConsumer made) {
        for (int value : beside(0, many - 1)) {
            dueIndex(call + " of " + value, field, () -> made.accept(value));
        }
    }

    private static int[] beside(int least, int most) {
        return new int[] {least - 1, most + 1, Integer.MIN_VALUE, Integer.MAX_VALUE};
    }

    /** Ends the program; with exit code 1 if an answer was wrong. */
    static void end() {
        System.out.println(right + " answers are as due, " + wrong + " are not");
        System.exit(wrong == 0 && right > 0 ? 0 : 1);
    }

    private static void count(boolean isRight, String complaint) {
        if (isRight) {
            right++;
        } else {
            wrong++;
            System.out.println(complaint);
        }
    }
}
