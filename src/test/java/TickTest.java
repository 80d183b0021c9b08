/** Promise 5: tick; with 10 (mode), 11 (sources), 12 (timer) and 13 (groupTimer) as time goes by. */
public final class TickTest {
    public static void main(String[] args) {
        noTicks();
        including();
        excluding();
        ownTimerFirst();
        bothAtOnce();
        ownTimerWithoutSources();
        manyAtOnce();
        generalQueries();
        orderOfQueries();
        refused();
        refusedLooks();
        Check.end();
    }

    private static void noTicks() {
        GroupFilters x = new GroupFilters(2);
        x.report(0, 0, GroupFilters.EX, 3);
        x.report(0, 0, GroupFilters.IN, 4);
        String before = Picture.of(x);
        Check.due("tick(0)", x.tick(0), 0);
        Check.due("after tick(0)", Picture.of(x), before);
    }

    private static void including() {
        GroupFilters x = new GroupFilters(1);
        x.report(0, 0, GroupFilters.IN, 1);
        x.tick(1);
        x.report(0, 0, GroupFilters.IN, 2);
        x.tick(42);
        Check.timers("before the first is over", x, 0, 0, 1, 2, 0);
        x.tick(1);
        Check.record("the first is gone", x, 0, 0, new int[] {0, 2, 0, 0});
        Check.timers("the first is gone", x, 0, 0, 0, 1, 0);
        x.tick(1);
        Check.record("so is the record", x, 0, 0, new int[] {-1, 0, 0, 0});
    }

    private static void excluding() {
        GroupFilters x = new GroupFilters(1);
        x.report(0, 0, GroupFilters.IN, 1);
        x.tick(1);
        x.report(0, 0, GroupFilters.EX, 3);
        Check.record("at first", x, 0, 0, new int[] {1, 1, 2, 44});
        x.tick(42);
        Check.record("before the source's timer is over", x, 0, 0, new int[] {1, 1, 2, 2});
        x.tick(1);
        Check.record("it is in Y", x, 0, 0, new int[] {1, 0, 3, 1});
        Check.timers("it is in Y", x, 0, 0, 0, 0);
        x.tick(1);
        Check.record("Y is gone", x, 0, 0, new int[] {-1, 0, 0, 0});
    }

    private static void ownTimerFirst() {
        GroupFilters x = new GroupFilters(1);
        x.report(0, 0, GroupFilters.EX, 4);
        x.tick(1);
        x.report(0, 0, GroupFilters.ALLOW, 3);
        x.tick(43);
        Check.record("includes X", x, 0, 0, new int[] {0, 3, 0, 0});
        Check.timers("includes X", x, 0, 0, 1, 1, 0);
        x.tick(1);
        Check.record("over", x, 0, 0, new int[] {-1, 0, 0, 0});
    }

    private static void bothAtOnce() {
        GroupFilters x = new GroupFilters(1);
        x.report(0, 0, GroupFilters.EX, 4);
        x.report(0, 0, GroupFilters.ALLOW, 1);
        x.tick(1);
        x.report(0, 0, GroupFilters.ALLOW, 2);
        x.tick(43);
        Check.record("what is over with GT is gone", x, 0, 0, new int[] {0, 2, 0, 0});
    }

    private static void ownTimerWithoutSources() {
        GroupFilters x = new GroupFilters(1);
        x.report(0, 0, GroupFilters.EX, 0);
        x.tick(43);
        Check.record("one before", x, 0, 0, new int[] {1, 0, 0, 1});
        x.tick(1);
        Check.record("no record", x, 0, 0, new int[] {-1, 0, 0, 0});
    }

    private static void manyAtOnce() {
        GroupFilters one = new GroupFilters(2);
        GroupFilters many = new GroupFilters(2);
        for (GroupFilters x : new GroupFilters[] {one, many}) {
            x.settings(0, 3, 7, 2);
            x.report(0, 0, GroupFilters.IN, 1);
            x.report(0, 1, GroupFilters.EX, 1);
            x.tick(5);
            x.report(0, 0, GroupFilters.IN, 2);
            x.report(0, 1, GroupFilters.ALLOW, 7);
            x.query(1, 3, GroupFilters.NONE, 0, false);
        }
        int sum = 0;
        for (int i = 0; i < 150; i++) {
            sum += one.tick(1);
        }
        Check.due("queries by 150 ticks", many.tick(150), sum);
        Check.due("after 150 ticks", Picture.of(many), Picture.of(one));
    }

    private static void generalQueries() {
        GroupFilters x = new GroupFilters(1);
        Check.due("within the first interval", x.tick(19), 0);
        Check.due("till the next", x.told(0, 5), 1);
        Check.due("behind it", x.tick(1), 1);
        Check.due("till the next", x.told(0, 5), 20);
        Check.query("behind it", x, 0, 0, GroupFilters.NONE, 0, 20);
        Check.due("of 2000", x.tick(2000), 100);
        Check.due("in all", x.sent(), 101);
        x = new GroupFilters(4);
        for (int l = 0; l < 4; l++) {
            x.settings(l, 1, 1, 1);
        }
        Check.due("on each link at each tick", x.tick(2000), 8000);
        Check.due("no other link's record", x.told(3, 4), 0);
        x = new GroupFilters(1);
        x.report(0, 0, GroupFilters.EX, 0);
        x.report(0, 1, GroupFilters.IN, 1);
        x.tick(20);
        Check.due("a general query lowers no GT", x.groupTimer(0, 0), 24);
        Check.due("and no timer", x.timer(0, 1, 0), 24);
    }

    private static void orderOfQueries() {
        GroupFilters x = new GroupFilters(2);
        x.settings(0, 2, 7, 1);
        x.settings(1, 2, 5, 1);
        Check.due("queries by 15 ticks", x.tick(15), 5);
        int[][] due = {{1, 15}, {0, 14}, {1, 10}, {0, 7}, {1, 5}};
        for (int k = 0; k < 5; k++) {
            Check.query("in order of their ticks", x, k, due[k][0], GroupFilters.NONE, 0, due[k][1]);
        }
        Check.due("till the next of link 0", x.told(0, 5), 6);
        Check.due("till the next of link 1", x.told(1, 5), 5);
    }

    private static void refused() {
        GroupFilters x = new GroupFilters(1);
        x.report(0, 0, GroupFilters.EX, 3);
        for (int many : new int[] {-1, 2001, Integer.MAX_VALUE, Integer.MIN_VALUE}) {
            Check.noArgument("tick(" + many + ")", x, () -> x.tick(many));
        }
    }

    private static void refusedLooks() {
        GroupFilters x = new GroupFilters(3);
        for (int link : new int[] {-1, 3, Integer.MAX_VALUE, Integer.MIN_VALUE}) {
            Check.noIndex("mode, link " + link, x, () -> x.mode(link, 0));
            Check.noIndex("sources, link " + link, x, () -> x.sources(link, 0, true));
            Check.noIndex("timer, link " + link, x, () -> x.timer(link, 0, 0));
            Check.noIndex("groupTimer, link " + link, x, () -> x.groupTimer(link, 0));
        }
        for (int group : new int[] {-1, 8, Integer.MAX_VALUE, Integer.MIN_VALUE}) {
            Check.noIndex("mode, group " + group, x, () -> x.mode(2, group));
            Check.noIndex("sources, group " + group, x, () -> x.sources(2, group, false));
            Check.noIndex("timer, group " + group, x, () -> x.timer(2, group, 0));
            Check.noIndex("groupTimer, group " + group, x, () -> x.groupTimer(2, group));
        }
        for (int source : new int[] {-1, 16, Integer.MAX_VALUE, Integer.MIN_VALUE}) {
            Check.noIndex("timer, source " + source, x, () -> x.timer(2, 7, source));
        }
    }
}
