/** "An object is used for at most 512 calls after it has been made": right up to the 512th. */
public final class LongestRunTest {
    private static final int MOST_CALLS = 512;

    public static void main(String[] args) {
        mostTicks();
        mostQueriesOfReports();
        mostRefusals();
        manyClears();
        Check.end();
    }

    /** As many ticks, and as many general queries, as an object can live to see. */
    private static void mostTicks() {
        GroupFilters x = new GroupFilters(4);
        for (int l = 0; l < 4; l++) {
            x.settings(l, 1, 1, 1);
        }
        int turns = MOST_CALLS - 4 - 1 - 4;
        for (int i = 0; i < turns; i++) {
            Check.due("queries by 2000 ticks", x.tick(2000), 8000);
        }
        Check.due("sent", x.sent(), turns * 8000);
        Check.due("the latest one's link", x.asked(0, 0), 3);
        Check.due("the latest one's tick", x.asked(0, 3), turns * 2000);
        Check.due("the fortieth's link", x.asked(39, 0), 0);
        Check.due("the fortieth's tick", x.asked(39, 3), turns * 2000 - 9);
    }

    private static void mostQueriesOfReports() {
        GroupFilters x = new GroupFilters(1);
        x.report(0, 7, GroupFilters.EX, 0);
        int turns = (MOST_CALLS - 1 - 5) / 2;
        for (int i = 0; i < turns; i++) {
            Check.due("no query by ALLOW", x.report(0, 7, GroupFilters.ALLOW, 65535), 0);
            Check.due("two queries by TO_IN", x.report(0, 7, GroupFilters.TO_IN, 0), 2);
        }
        Check.due("sent", x.sent(), turns * 2);
        Check.query("the one before the latest", x, 1, 0, 7, 65535, 0);
    }

    private static void mostRefusals() {
        GroupFilters x = new GroupFilters(1);
        x.report(0, 0, GroupFilters.EX, 1);
        for (int i = 0; i < MOST_CALLS - 3; i++) {
            Check.noArgument("tick(2001)", () -> x.tick(2001));
        }
        Check.due("GT", x.groupTimer(0, 0), 44);
        Check.due("the clock", x.told(0, 5), 20);
    }

    private static void manyClears() {
        GroupFilters x = new GroupFilters(2);
        for (int i = 0; i < (MOST_CALLS - 2) / 3; i++) {
            x.report(1, 0, GroupFilters.IN, 1);
            Check.due("queries by 20 ticks", x.tick(20), 2);
            x.clear();
        }
        Check.due("sent", x.sent(), 0);
        Check.due("records", x.told(1, 4), 0);
    }
}
