import java.util.function.DoubleSupplier;
import java.util.function.IntToLongFunction;
import java.util.function.LongSupplier;

/** What the tests share: how a call is checked, and objects that have some calls behind them. */
abstract class Checks {
    static final Class<?> INDEX = IndexOutOfBoundsException.class;
    static final Class<?> ARGUMENT = IllegalArgumentException.class;
    static final Class<?> STATE = IllegalStateException.class;
    // The powers of two are those which a row's number times its width would turn into a small number.
    static final int[] FAR = {Integer.MIN_VALUE, -(1 << 30), -1000, 1000, 1 << 29, 1 << 30, Integer.MAX_VALUE - 1,
        Integer.MAX_VALUE};

    static String part = "";
    static int checks = 0;
    static int wrong = 0;

    // ---- how it is checked

    static void due(String call, long want, LongSupplier got) {
        checks++;
        String answer;
        try {
            answer = Long.toString(got.getAsLong());
        } catch (RuntimeException e) {
            answer = "throws " + e.getClass().getName();
        }
        if (!answer.equals(Long.toString(want))) {
            tell(call, answer, Long.toString(want));
        }
    }

    static void dueDouble(String call, double want, DoubleSupplier got) {
        checks++;
        double answer = got.getAsDouble();
        if (answer != want) {
            tell(call, Double.toString(answer), Double.toString(want));
        }
    }

    /** The call throws just this, and changes nothing. */
    static void fails(String call, Class<?> want, PipeMoulds x, LongSupplier got) {
        checks++;
        long before = x.digest();
        String answer;
        try {
            answer = Long.toString(got.getAsLong());
        } catch (RuntimeException e) {
            answer = e.getClass().getName();
        }
        if (!answer.equals(want.getName())) {
            tell(call, answer, want.getName());
        }
        if (x.digest() != before) {
            tell(call, "changes something", "changes nothing");
        }
    }

    /** The call throws just this for the numbers next to its bounds, outside of them, and for those far outside. */
    static void failsOutside(int least, int most, String call, Class<?> want, PipeMoulds x, IntToLongFunction got) {
        fails(call + " of " + (least - 1), want, x, () -> got.applyAsLong(least - 1));
        fails(call + " of " + (most + 1), want, x, () -> got.applyAsLong(most + 1));
        for (int far : FAR) {
            fails(call + " of " + far, want, x, () -> got.applyAsLong(far));
        }
    }

    static void row(String call, int[] want, IntToLongFunction got) {
        for (int what = 0; what < want.length; what++) {
            int of = what;
            due(call + " " + what, want[what], () -> got.applyAsLong(of));
        }
    }

    static void tell(String call, String got, String want) {
        wrong++;
        System.out.println(part + ": " + call + " answered " + got + ", due is " + want);
    }

    /** Runs each test by itself, so that one that breaks off hides none behind it; ends with 1 if one was wrong. */
    static void runAll(Runnable... tests) {
        for (Runnable test : tests) {
            try {
                test.run();
            } catch (RuntimeException e) {
                tell("a call", "throws " + e, "an answer");
            }
        }
        System.out.println(tests.length + " tests, " + checks + " checks, " + wrong + " wrong");
        if (wrong != 0) {
            System.exit(1);
        }
    }

    // ---- objects that have some calls behind them

    /** A maker of this skill at a new mould. */
    static PipeMoulds works(int skill, int length, int stopper) {
        PipeMoulds x = new PipeMoulds();
        x.mould(length, stopper);
        x.maker(skill);
        x.place(0, 0);
        return x;
    }

    static void noDrying(PipeMoulds x) {
        for (int day = 0; day < 7; day++) {
            x.setDry(day, 0);
        }
    }

    /** This many dry, flawless whole pipes of length 8 in the store, 9 at most. */
    static PipeMoulds withWhole(int pipes) {
        PipeMoulds x = works(pipes, 8, 9);
        x.pass(1);
        x.place(0, -1);
        x.pass(5);
        x.pack(0, 1, pipes);
        x.fire(9);
        return x;
    }
}
