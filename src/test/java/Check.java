/** Counts and prints what is not as due; a test ends with end(). */
final class Check {
    interface Call {
        void run();
    }

    private static final long MOST_MILLISECONDS = 60_000;

    private final String test;
    private int checks = 0;
    private int wrong = 0;

    Check(String test) {
        this.test = test;
        watch();
    }

    /** A call that never ends must fail the test, not hold it up. */
    private void watch() {
        Thread watcher = new Thread(() -> {
            try {
                Thread.sleep(MOST_MILLISECONDS);
            } catch (InterruptedException e) {
                return;
            }
            System.out.println(test + ": a call does not end");
            Runtime.getRuntime().halt(1);
        });
        watcher.setDaemon(true);
        watcher.start();
    }

    void due(String what, long got, long want) {
        checks++;
        if (got != want) {
            wrong++;
            System.out.println(test + ": " + what + " answered " + got + ", due is " + want);
        }
    }

    void yes(String what, boolean holds) {
        due(what, holds ? 1 : 0, 1);
    }

    /** The call must throw IllegalArgumentException itself, no kind of it and nothing else. */
    void refused(String what, Call call) {
        String got = "nothing";
        try {
            call.run();
        } catch (RuntimeException e) {
            got = e.getClass().getName();
        }
        checks++;
        if (!got.equals("java.lang.IllegalArgumentException")) {
            wrong++;
            System.out.println(test + ": " + what + " threw " + got + ", due is IllegalArgumentException");
        }
    }

    /** All that told answers, in one go. */
    void told(String when, CookieListener x, int... want) {
        for (int what = 0; what < want.length; what++) {
            due(when + ": told(" + what + ")", x.told(what), want[what]);
        }
    }

    void end() {
        System.out.println(test + ": " + checks + " checks, " + wrong + " wrong");
        if (wrong != 0) {
            System.exit(1);
        }
    }
}
