/** Compares answers with those that are due, and ends a test with exit code 1 if one was not. */
final class Check {
    private static final int MOST_TOLD = 40;
    private static int done = 0;
    private static int wrong = 0;

    private Check() {
    }

    static void due(String call, long got, long want) {
        done++;
        if (got != want) {
            tell(call + " answered " + got + ", due is " + want);
        }
    }

    static void due(String call, boolean got, boolean want) {
        due(call, got ? 1 : 0, want ? 1 : 0);
    }

    static void due(String call, String got, String want) {
        done++;
        if (!got.equals(want)) {
            tell(call + " answered\n  " + got + "\ndue is\n  " + want);
        }
    }

    /** A fault in a long run shows in thousands of checks: the first ones are enough. */
    private static void tell(String text) {
        wrong++;
        if (wrong <= MOST_TOLD) {
            System.out.println(text);
        }
    }

    /** The name of what the call throws, "nothing" if it answers. */
    static String thrown(Runnable call) {
        try {
            call.run();
        } catch (RuntimeException e) {
            return e.getClass().getName();
        }
        return "nothing";
    }

    static void noIndex(String call, Runnable run) {
        due(call + " throws", thrown(run), IndexOutOfBoundsException.class.getName());
    }

    static void noArgument(String call, Runnable run) {
        due(call + " throws", thrown(run), IllegalArgumentException.class.getName());
    }

    /** Of one record: its mode, A or X, Y, and the group's own timer. */
    static void record(String when, GroupFilters x, int link, int group, int... want) {
        due(when + ": mode", x.mode(link, group), want[0]);
        due(when + ": sources running", x.sources(link, group, true), want[1]);
        due(when + ": sources stopped", x.sources(link, group, false), want[2]);
        due(when + ": groupTimer", x.groupTimer(link, group), want[3]);
    }

    /** Timers of the sources from 0 on. */
    static void timers(String when, GroupFilters x, int link, int group, int... want) {
        for (int s = 0; s < want.length; s++) {
            due(when + ": timer of " + s, x.timer(link, group, s), want[s]);
        }
    }

    /** The query that was sent k before the latest one: link, group, set, tick. */
    static void query(String when, GroupFilters x, int k, int... want) {
        for (int what = 0; what < want.length; what++) {
            due(when + ": asked(" + k + ", " + what + ")", x.asked(k, what), want[what]);
        }
    }

    /** Who asks on a link: the address, ticks till the router asks again, ticks till its next general query. */
    static void asker(String when, GroupFilters x, int link, int address, int again, int next) {
        due(when + ": address", x.told(link, 2), address);
        due(when + ": asks again", x.told(link, 3), again);
        due(when + ": next query", x.told(link, 5), next);
    }

    static void end() {
        System.out.println(done + " checks, " + wrong + " wrong");
        if (wrong != 0 || done == 0) {
            System.exit(1);
        }
    }
}
