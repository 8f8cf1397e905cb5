import java.util.List;

/** Compares answers with what is due, prints each that is not, and ends the test that uses it. */
final class Check {
    private static int wrong = 0;
    private static int looked = 0;

    private Check() {
    }

    static void due(String call, long got, long want) {
        looked++;
        if (got != want) {
            fail(call + " answered " + got + ", due is " + want);
        }
    }

    static void due(String call, boolean got, boolean want) {
        looked++;
        if (got != want) {
            fail(call + " answered " + got + ", due is " + want);
        }
    }

    static void due(String call, String got, String want) {
        looked++;
        if (!got.equals(want)) {
            fail(call + " answered " + got + ", due is " + want);
        }
    }

    /** A call that is due to throw an IndexOutOfBoundsException. */
    static void noSuch(String call, Runnable run) {
        thrown(call, run, IndexOutOfBoundsException.class);
    }

    /** A call that is due to throw an IllegalArgumentException. */
    static void outOfRange(String call, Runnable run) {
        thrown(call, run, IllegalArgumentException.class);
    }

    /** A call that is due to throw an IllegalStateException. */
    static void refused(String call, Runnable run) {
        thrown(call, run, IllegalStateException.class);
    }

    /** A call of a port that is due to throw an IndexOutOfBoundsException, and to change nothing. */
    static void noSuch(HarborTides port, String call, Runnable run) {
        List<Object> before = Inside.all(port);
        noSuch(call, run);
        due("nothing is changed by " + call, Inside.all(port).equals(before), true);
    }

    /** A call of a port that is due to throw an IllegalArgumentException, and to change nothing. */
    static void outOfRange(HarborTides port, String call, Runnable run) {
        List<Object> before = Inside.all(port);
        outOfRange(call, run);
        due("nothing is changed by " + call, Inside.all(port).equals(before), true);
    }

    /** A call of a port that is due to throw an IllegalStateException, and to change nothing. */
    static void refused(HarborTides port, String call, Runnable run) {
        List<Object> before = Inside.all(port);
        refused(call, run);
        due("nothing is changed by " + call, Inside.all(port).equals(before), true);
    }

    private static void thrown(String call, Runnable run, Class<?> want) {
        looked++;
        String got = "nothing";
        try {
            run.run();
        } catch (RuntimeException e) {
            got = told(e);
        }
        if (!got.equals(want.getName())) {
            fail(call + " threw " + got + ", due is " + want.getName());
        }
    }

    /** The class of an exception; what the class did not throw itself, but the machine or the library, is told apart. */
    static String told(RuntimeException e) {
        StackTraceElement[] trace = e.getStackTrace();
        boolean own = trace.length > 0 && trace[0].getClassName().matches("(HarborTides|PortModel)([$].*)?");
        return own ? e.getClass().getName() : e.getClass().getName() + " by itself";
    }

    static void fail(String text) {
        wrong++;
        if (wrong <= 50) {
            System.out.println("  " + text);
        }
    }

    static void end() {
        System.out.println("  " + looked + " looks, " + wrong + " wrong");
        if (wrong != 0 || looked == 0) {
            System.exit(1);
        }
    }
}
