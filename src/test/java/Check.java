/** Compares answers with those that are due, and ends a test with exit code 1 if one was not. */
final class Check {
    private static final int MOST_TOLD = 40;
    private static int done = 0;
    private static int wrong = 0;

    private Check() {
    }

    static void due(String call, long got, long want) {
        done++;
        if (got != want) {
            tell(call + " answered " + got + ", due is " + want);
        }
    }

    static void due(String call, boolean got, boolean want) {
        due(call, got ? 1 : 0, want ? 1 : 0);
    }

    static void due(String call, String got, String want) {
        done++;
        if (!got.equals(want)) {
            tell(call + " answered\n  " + got + "\ndue is\n  " + want);
        }
    }

    /** A fault in a long run shows in thousands of checks: the first ones are enough. */
    private static void tell(String text) {
        wrong++;
        if (wrong <= MOST_TOLD) {
            System.out.println(text);
        }
    }

    /** The call throws just that exception, and the object is afterwards as it was. */
    static void refused(String call, GroupFilters x, Class<? extends RuntimeException> due, Runnable run) {
        String before = Picture.of(x);
        String got = "nothing";
        try {
            run.run();
        } catch (RuntimeException e) {
            got = e.getClass().getName();
        }
        due(call + " throws", got, due.getName());
        due(call + " changes nothing", Picture.of(x), before);
    }

    static void noIndex(String call, GroupFilters x, Runnable run) {
        refused(call, x, IndexOutOfBoundsException.class, run);
    }

    static void noArgument(String call, GroupFilters x, Runnable run) {
        refused(call, x, IllegalArgumentException.class, run);
    }

    /** Of one record: its mode, A or X, Y, and the group's own timer. */
    static void record(String when, GroupFilters x, int link, int group, int[] want) {
        due(when + ": mode", x.mode(link, group), want[0]);
        due(when + ": sources running", x.sources(link, group, true), want[1]);
        due(when + ": sources stopped", x.sources(link, group, false), want[2]);
        due(when + ": groupTimer", x.groupTimer(link, group), want[3]);
    }

    /** Timers of the sources from 0 on. */
    static void timers(String when, GroupFilters x, int link, int group, int... want) {
        for (int s = 0; s < want.length; s++) {
            due(when + ": timer of " + s, x.timer(link, group, s), want[s]);
        }
    }

    /** The query that was sent k before the latest one. */
    static void query(String when, GroupFilters x, int k, int... want) {
        for (int what = 0; what < want.length; what++) {
            due(when + ": asked(" + k + ", " + what + ")", x.asked(k, what), want[what]);
        }
    }

    static void end() {
        System.out.println(done + " checks, " + wrong + " wrong");
        if (wrong != 0 || done == 0) {
            System.exit(1);
        }
    }
}
