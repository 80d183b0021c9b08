/** Promise 3: report, each kind on a record that includes and on one that excludes. */
public final class ReportTest {
    private static final int GRACE = 23;
    private static final int LAST = 2;

    public static void main(String[] args) {
        onNoRecord();
        inclusion();
        exclusion();
        toInclusion();
        toExclusion();
        blocking();
        withoutAsking();
        timersNotAboveLastStay();
        otherGroupsAndLinksStay();
        refused();
        Check.end();
    }

    /** Group 1 of link 0 includes 0, 1 (timers 19) and 2 (23). */
    private static GroupFilters including() {
        GroupFilters x = new GroupFilters(2);
        x.settings(0, 2, 10, 3);
        x.report(0, 1, GroupFilters.IN, 3);
        x.tick(4);
        x.report(0, 1, GroupFilters.ALLOW, 4);
        return x;
    }

    /** Group 1 of link 0 excludes: X is 0 (timer 15) and 1 (19); Y is 2 and 3; GT is 21. */
    private static GroupFilters excluding() {
        GroupFilters x = new GroupFilters(2);
        x.settings(0, 2, 10, 3);
        x.report(0, 1, GroupFilters.IN, 1);
        x.tick(4);
        x.report(0, 1, GroupFilters.IN, 2);
        x.tick(2);
        x.report(0, 1, GroupFilters.EX, 15);
        x.tick(2);
        Check.record("excluding", x, 0, 1, new int[] {1, 3, 12, 21});
        Check.timers("excluding", x, 0, 1, 15, 19, 0, 0, 0, 0);
        return x;
    }

    private static int send(GroupFilters x, int kind, int set) {
        int before = x.sent();
        int many = x.report(0, 1, kind, set);
        Check.due("what report(0, 1, " + kind + ", " + set + ") tells of queries", many, x.sent() - before);
        return many;
    }

    private static void onNoRecord() {
        int[] kinds = {0, 1, 2, 3, 4, 5};
        int[][] ofNone = {{-1, 0, 0, 0}, {1, 0, 0, 44}, {-1, 0, 0, 0}, {1, 0, 0, 44}, {-1, 0, 0, 0}, {-1, 0, 0, 0}};
        int[][] ofSome = {{0, 5, 0, 0}, {1, 0, 5, 44}, {0, 5, 0, 0}, {1, 0, 5, 44}, {0, 5, 0, 0}, {-1, 0, 0, 0}};
        for (int kind : kinds) {
            GroupFilters x = new GroupFilters(1);
            Check.due("queries", x.report(0, 0, kind, 0), 0);
            Check.record("no record, kind " + kind + " of none", x, 0, 0, ofNone[kind]);
            x = new GroupFilters(1);
            Check.due("queries", x.report(0, 7, kind, 5), 0);
            Check.record("no record, kind " + kind + " of some", x, 0, 7, ofSome[kind]);
            Check.due("records", x.told(0, 4), kind == 5 ? 0 : 1);
            Check.due("timer", x.timer(0, 7, 2), kind % 2 == 0 ? 44 : 0);
        }
        GroupFilters x = new GroupFilters(1);
        x.report(0, 0, GroupFilters.IN, 65535);
        Check.record("all sources", x, 0, 0, new int[] {0, 65535, 0, 0});
        Check.due("timer of the last one", x.timer(0, 0, 15), 44);
    }

    private static void inclusion() {
        for (int kind : new int[] {GroupFilters.IN, GroupFilters.ALLOW}) {
            GroupFilters x = including();
            Check.due("queries", send(x, kind, 10), 0);
            Check.record("includes, kind " + kind, x, 0, 1, new int[] {0, 15, 0, 0});
            Check.timers("includes, kind " + kind, x, 0, 1, 19, GRACE, 23, GRACE, 0);
            x = excluding();
            Check.due("queries", send(x, kind, 22), 0);
            Check.record("excludes, kind " + kind, x, 0, 1, new int[] {1, 23, 8, 21});
            Check.timers("excludes, kind " + kind, x, 0, 1, 15, GRACE, GRACE, 0, GRACE);
            x = excluding();
            Check.due("queries", send(x, kind, 0), 0);
            Check.record("excludes, kind " + kind + " of none", x, 0, 1, new int[] {1, 3, 12, 21});
        }
        GroupFilters x = including();
        x.settings(0, 1, 1, 1);
        send(x, GroupFilters.IN, 1);
        Check.due("a longer timer becomes GRACE, too", x.timer(0, 1, 0), 2);
    }

    private static void exclusion() {
        GroupFilters x = including();
        Check.due("queries", send(x, GroupFilters.EX, 10), 0);
        Check.record("includes, EX", x, 0, 1, new int[] {1, 2, 8, GRACE});
        Check.timers("includes, EX", x, 0, 1, 0, 19, 0, 0, 0);
        x = excluding();
        Check.due("queries", send(x, GroupFilters.EX, 22), 0);
        Check.record("excludes, EX", x, 0, 1, new int[] {1, 18, 4, GRACE});
        Check.timers("excludes, EX", x, 0, 1, 0, 19, 0, 0, GRACE, 0);
        x = excluding();
        send(x, GroupFilters.EX, 0);
        Check.record("excludes, EX of none", x, 0, 1, new int[] {1, 0, 0, GRACE});
        Check.timers("excludes, EX of none", x, 0, 1, 0, 0, 0, 0, 0);
    }

    private static void toInclusion() {
        GroupFilters x = including();
        Check.due("queries", send(x, GroupFilters.TO_IN, 10), 1);
        Check.record("includes, TO_IN", x, 0, 1, new int[] {0, 15, 0, 0});
        Check.timers("includes, TO_IN", x, 0, 1, LAST, GRACE, LAST, GRACE, 0);
        Check.query("includes, TO_IN", x, 0, 0, 1, 5, 4);
        x = including();
        Check.due("queries if all are told", send(x, GroupFilters.TO_IN, 7), 0);
        x = excluding();
        Check.due("queries", send(x, GroupFilters.TO_IN, 22), 2);
        Check.record("excludes, TO_IN", x, 0, 1, new int[] {1, 23, 8, LAST});
        Check.timers("excludes, TO_IN", x, 0, 1, LAST, GRACE, GRACE, 0, GRACE);
        Check.query("excludes, TO_IN, sources first", x, 1, 0, 1, 1, 8);
        Check.query("excludes, TO_IN, then the group", x, 0, 0, 1, 0, 8);
        x = excluding();
        Check.due("the group alone", send(x, GroupFilters.TO_IN, 3), 1);
        Check.query("the group alone", x, 0, 0, 1, 0, 8);
        Check.record("the group alone", x, 0, 1, new int[] {1, 3, 12, LAST});
        Check.timers("the group alone", x, 0, 1, GRACE, GRACE, 0, 0);
    }

    private static void toExclusion() {
        GroupFilters x = including();
        Check.due("queries", send(x, GroupFilters.TO_EX, 10), 1);
        Check.record("includes, TO_EX", x, 0, 1, new int[] {1, 2, 8, GRACE});
        Check.timers("includes, TO_EX", x, 0, 1, 0, LAST, 0, 0, 0);
        Check.query("includes, TO_EX", x, 0, 0, 1, 2, 4);
        x = including();
        Check.due("queries if none is in both", send(x, GroupFilters.TO_EX, 8), 0);
        Check.record("none in both", x, 0, 1, new int[] {1, 0, 8, GRACE});
        x = excluding();
        Check.due("queries", send(x, GroupFilters.TO_EX, 22), 1);
        Check.record("excludes, TO_EX", x, 0, 1, new int[] {1, 18, 4, GRACE});
        Check.timers("excludes, TO_EX", x, 0, 1, 0, LAST, 0, 0, LAST);
        Check.query("excludes, TO_EX", x, 0, 0, 1, 18, 8);
        x = excluding();
        Check.due("queries if all are in Y", send(x, GroupFilters.TO_EX, 4), 0);
        Check.record("all in Y", x, 0, 1, new int[] {1, 0, 4, GRACE});
    }

    private static void blocking() {
        GroupFilters x = including();
        Check.due("queries", send(x, GroupFilters.BLOCK, 10), 1);
        Check.record("includes, BLOCK", x, 0, 1, new int[] {0, 7, 0, 0});
        Check.timers("includes, BLOCK", x, 0, 1, 19, LAST, 23, 0, 0);
        Check.query("includes, BLOCK", x, 0, 0, 1, 2, 4);
        x = including();
        Check.due("queries if none is in both", send(x, GroupFilters.BLOCK, 8), 0);
        x = excluding();
        Check.due("queries", send(x, GroupFilters.BLOCK, 22), 1);
        Check.record("excludes, BLOCK", x, 0, 1, new int[] {1, 19, 12, 21});
        Check.timers("excludes, BLOCK", x, 0, 1, 15, LAST, 0, 0, LAST);
        Check.query("excludes, BLOCK", x, 0, 0, 1, 18, 8);
        x = excluding();
        Check.due("queries if all are in Y", send(x, GroupFilters.BLOCK, 12), 0);
        Check.record("all in Y", x, 0, 1, new int[] {1, 3, 12, 21});
    }

    /** The timers that are told to become something do, but nothing is sent and nothing is lowered. */
    private static void withoutAsking() {
        int[][] included = {{0, 15, 0, 0}, {1, 2, 8, GRACE}, {0, 7, 0, 0}};
        int[][] includedTimers = {{19, GRACE, 23, GRACE, 0}, {0, 19, 0, 0, 0}, {19, 19, 23, 0, 0}};
        int[][] excluded = {{1, 23, 8, 21}, {1, 18, 4, GRACE}, {1, 19, 12, 21}};
        int[][] excludedTimers = {{15, GRACE, GRACE, 0, GRACE}, {0, 19, 0, 0, 21}, {15, 19, 0, 0, 21}};
        int[] kinds = {GroupFilters.TO_IN, GroupFilters.TO_EX, GroupFilters.BLOCK};
        for (int i = 0; i < 3; i++) {
            GroupFilters x = including();
            x.query(0, 499, GroupFilters.NONE, 0, false);
            Check.due("queries", send(x, kinds[i], 10), 0);
            Check.record("not asking, includes, kind " + kinds[i], x, 0, 1, included[i]);
            Check.timers("not asking, includes, kind " + kinds[i], x, 0, 1, includedTimers[i]);
            x = excluding();
            x.query(0, 499, GroupFilters.NONE, 0, false);
            Check.due("queries", send(x, kinds[i], 22), 0);
            Check.record("not asking, excludes, kind " + kinds[i], x, 0, 1, excluded[i]);
            Check.timers("not asking, excludes, kind " + kinds[i], x, 0, 1, excludedTimers[i]);
        }
    }

    private static void timersNotAboveLastStay() {
        GroupFilters x = new GroupFilters(1);
        x.report(0, 0, GroupFilters.IN, 3);
        x.tick(43);
        Check.due("asked all the same", x.report(0, 0, GroupFilters.BLOCK, 1), 1);
        Check.timers("at 1", x, 0, 0, 1, 1);
        x = new GroupFilters(1);
        x.report(0, 0, GroupFilters.EX, 3);
        x.tick(43);
        Check.due("asked all the same", x.report(0, 0, GroupFilters.TO_IN, 0), 1);
        Check.due("GT at 1", x.groupTimer(0, 0), 1);
        Check.due("asked of what gets GT", x.report(0, 0, GroupFilters.BLOCK, 8), 1);
        Check.due("it has GT", x.timer(0, 0, 3), 1);
    }

    private static void otherGroupsAndLinksStay() {
        GroupFilters x = new GroupFilters(2);
        x.report(0, 0, GroupFilters.EX, 1);
        Check.record("another group", x, 0, 1, new int[] {-1, 0, 0, 0});
        Check.record("another link", x, 1, 0, new int[] {-1, 0, 0, 0});
        x.query(0, 3, GroupFilters.NONE, 0, false);
        x.report(1, 0, GroupFilters.EX, 0);
        Check.due("asked on the link where it asks", x.report(1, 0, GroupFilters.TO_IN, 0), 1);
        Check.query("there", x, 0, 1, 0, 0, 0);
        Check.due("GT there", x.groupTimer(1, 0), LAST);
        Check.due("GT here", x.groupTimer(0, 0), 44);
    }

    private static void refused() {
        GroupFilters x = excluding();
        for (int link : new int[] {-1, 2, Integer.MAX_VALUE, Integer.MIN_VALUE}) {
            Check.noIndex("report, link " + link, x, () -> x.report(link, 1, 3, 1));
            Check.noIndex("report, link " + link + " and more", x, () -> x.report(link, 1, 9, -1));
        }
        for (int group : new int[] {-1, 8, Integer.MAX_VALUE, Integer.MIN_VALUE}) {
            Check.noIndex("report, group " + group, x, () -> x.report(0, group, 3, 1));
            Check.noIndex("report, group " + group + " and more", x, () -> x.report(0, group, -1, 65536));
        }
        for (int kind : new int[] {-1, 6, Integer.MAX_VALUE, Integer.MIN_VALUE}) {
            Check.noArgument("report, kind " + kind, x, () -> x.report(0, 1, kind, 1));
        }
        for (int set : new int[] {-1, 65536, Integer.MAX_VALUE, Integer.MIN_VALUE}) {
            Check.noArgument("report, set " + set, x, () -> x.report(0, 1, 3, set));
        }
    }
}
