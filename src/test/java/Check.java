/** Compares answers with what is due, prints those that differ, and counts them. */
final class Check {
    interface Call {
        long answer();
    }

    private static int looked = 0;
    private static int wrong = 0;
    private static String sentence = "";

    static {
        Thread guard = new Thread(Check::endLate);
        guard.setDaemon(true);
        guard.start();
    }

    private Check() {
    }

    /** A call that never ends must fail the test, not hold up all others. */
    private static void endLate() {
        try {
            Thread.sleep(300_000L);
        } catch (InterruptedException e) {
            return;
        }
        System.out.println(sentence + "did not end within 300 seconds");
        Runtime.getRuntime().halt(1);
    }

    /** The sentence of the document that the answers from here on are about. */
    static void about(String text) {
        sentence = text + " | ";
    }

    static void due(String what, long want, long got) {
        looked++;
        if (got != want) {
            fail(what + " answered " + got + ", due is " + want);
        }
    }

    static void dueMean(String what, double want, double got) {
        looked++;
        if (got != want) {
            fail(what + " answered " + got + ", due is " + want);
        }
    }

    /** The call throws exactly that exception, and changes nothing that the digest tells. */
    static void refused(String what, Class<? extends RuntimeException> want, StarlingSquare on, Call call) {
        looked++;
        long before = on.digest();
        Class<?> got = thrownBy(call);
        if (got != want) {
            fail(what + " threw " + got + ", due is " + want);
        }
        if (on.digest() != before) {
            fail(what + " threw, but changed something");
        }
    }

    static void indexRefused(String what, StarlingSquare on, Call call) {
        refused(what, IndexOutOfBoundsException.class, on, call);
    }

    static void argumentRefused(String what, StarlingSquare on, Call call) {
        refused(what, IllegalArgumentException.class, on, call);
    }

    static void stateRefused(String what, StarlingSquare on, Call call) {
        refused(what, IllegalStateException.class, on, call);
    }

    static void fail(String text) {
        wrong++;
        if (wrong <= 50) {
            System.out.println(sentence + text);
        }
    }

    /** Ends the program, with exit code 1 if an answer was wrong. */
    static void end() {
        System.out.println(looked + " answers looked at, " + wrong + " wrong");
        System.exit(wrong == 0 && looked > 0 ? 0 : 1);
    }

    static Class<?> thrownBy(Call call) {
        try {
            call.answer();
            return null;
        } catch (RuntimeException e) {
            return e.getClass();
        }
    }
}
