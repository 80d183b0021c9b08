/** Promises 4 (query), 14 (sent), 15 (asked) and 16 (told). */
public final class QueryTest {
    public static void main(String[] args) {
        whoAsks();
        passedOver();
        leastAddress();
        lowering();
        notLowering();
        asksAgain();
        refusedQueries();
        latestQueries();
        fortyQueries();
        records();
        refusedLooks();
        Check.end();
    }

    private static boolean general(GroupFilters x, int link, int address) {
        return x.query(link, address, GroupFilters.NONE, 0, false);
    }

    private static void asker(String when, GroupFilters x, int link, int address, int again, int next) {
        Check.due(when + ": address", x.told(link, 2), address);
        Check.due(when + ": asks again", x.told(link, 3), again);
        Check.due(when + ": next query", x.told(link, 5), next);
    }

    private static void whoAsks() {
        GroupFilters x = new GroupFilters(2);
        Check.due("query of 499", general(x, 0, 499), false);
        asker("499", x, 0, 499, 42, 0);
        asker("the other link", x, 1, 500, 0, 20);
        Check.due("one query by 20 ticks", x.tick(20), 1);
        Check.query("on the other link", x, 0, 1, GroupFilters.NONE, 0, 20);
        Check.due("query of 0", general(x, 1, 0), false);
        asker("0", x, 1, 0, 42, 0);
        x = new GroupFilters(1);
        x.settings(0, 1, 1, 1);
        general(x, 0, 1);
        Check.due("the shortest time", x.told(0, 3), 1);
        x = new GroupFilters(1);
        x.settings(0, 7, 200, 199);
        general(x, 0, 1);
        Check.due("d / 2 downward", x.told(0, 3), 1499);
    }

    private static void passedOver() {
        GroupFilters x = new GroupFilters(1);
        x.report(0, 0, GroupFilters.EX, 0);
        x.tick(3);
        for (int address : new int[] {500, 501, 999}) {
            Check.due("query of " + address, x.query(0, address, 0, 0, false), true);
            asker("of " + address, x, 0, 500, 0, 17);
            Check.due("GT stays", x.groupTimer(0, 0), 41);
        }
        general(x, 0, 300);
        x.tick(2);
        Check.due("query of 500 while another asks", x.query(0, 500, 0, 0, false), false);
        asker("500 is passed over", x, 0, 300, 40, 0);
        Check.due("GT stays", x.groupTimer(0, 0), 39);
    }

    private static void leastAddress() {
        GroupFilters x = new GroupFilters(1);
        general(x, 0, 300);
        x.tick(10);
        general(x, 0, 400);
        asker("a higher one begins the time anew", x, 0, 300, 42, 0);
        x.tick(10);
        general(x, 0, 100);
        asker("a lower one is told", x, 0, 100, 42, 0);
        x.tick(41);
        asker("one tick before", x, 0, 100, 1, 0);
        x.tick(1);
        asker("it asks again", x, 0, 500, 0, 20);
        general(x, 0, 450);
        asker("only those since it last asked", x, 0, 450, 42, 0);
    }

    /** Group 2 of link 0 excludes: X is 0 and 1 (timers 44), Y is 2, GT is 44. */
    private static GroupFilters excluding() {
        GroupFilters x = new GroupFilters(1);
        x.report(0, 2, GroupFilters.IN, 3);
        x.report(0, 2, GroupFilters.EX, 7);
        return x;
    }

    private static void lowering() {
        GroupFilters x = excluding();
        Check.due("query of some sources", x.query(0, 10, 2, 13, false), false);
        Check.timers("those alone", x, 0, 2, 2, 44, 0, 0);
        Check.record("nothing else", x, 0, 2, new int[] {1, 3, 4, 44});
        x = excluding();
        x.query(0, 10, 2, 0, false);
        Check.timers("of the group", x, 0, 2, 44, 44, 0, 0);
        Check.record("of the group", x, 0, 2, new int[] {1, 3, 4, 2});
        x.tick(1);
        x.query(0, 10, 2, 0, false);
        Check.due("GT below LAST stays", x.groupTimer(0, 2), 1);
        x = new GroupFilters(1);
        x.settings(0, 5, 10, 1);
        x.report(0, 0, GroupFilters.IN, 6);
        x.query(0, 10, 0, 0, false);
        Check.record("a group that includes has no GT", x, 0, 0, new int[] {0, 6, 0, 0});
        Check.timers("nor is it for the sources", x, 0, 0, 0, 51, 51);
        x.query(0, 10, 0, 65535, false);
        Check.timers("LAST by the settings", x, 0, 0, 0, 5, 5, 0);
        Check.record("no source comes in", x, 0, 0, new int[] {0, 6, 0, 0});
        Check.due("such a query is not sent", x.sent(), 0);
        x.query(0, 10, 1, 65535, false);
        Check.record("no record comes in", x, 0, 1, new int[] {-1, 0, 0, 0});
    }

    private static void notLowering() {
        GroupFilters x = excluding();
        Check.due("suppressed", x.query(0, 10, 2, 3, true), false);
        x.query(0, 10, 2, 0, true);
        x.query(0, 10, GroupFilters.NONE, 3, false);
        x.query(0, 10, GroupFilters.NONE, 0, false);
        x.query(0, 10, 3, 3, false);
        x.query(0, 600, 2, 3, false);
        Check.record("not lowered", x, 0, 2, new int[] {1, 3, 4, 44});
        Check.timers("not lowered", x, 0, 2, 44, 44, 0, 0);
    }

    private static void asksAgain() {
        GroupFilters x = new GroupFilters(1);
        x.tick(19);
        general(x, 0, 1);
        Check.due("no queries meanwhile, nor when it asks again", x.tick(42), 0);
        asker("asks again", x, 0, 500, 0, 20);
        Check.due("nor in the interval", x.tick(19), 0);
        Check.due("then one", x.tick(1), 1);
        Check.query("then one", x, 0, 0, GroupFilters.NONE, 0, 81);
        general(x, 0, 1);
        Check.due("42 ticks without, then one each 20", x.tick(42 + 60), 3);
        Check.query("the first of them", x, 2, 0, GroupFilters.NONE, 0, 143);
    }

    private static void refusedQueries() {
        GroupFilters x = excluding();
        for (int link : new int[] {-1, 1, Integer.MAX_VALUE, Integer.MIN_VALUE}) {
            Check.noIndex("query, link " + link, x, () -> x.query(link, 1, 2, 0, false));
            Check.noIndex("query, link " + link + " and more", x, () -> x.query(link, -1, 9, -1, false));
        }
        for (int address : new int[] {-1, 1000, Integer.MAX_VALUE, Integer.MIN_VALUE}) {
            Check.noArgument("query, address " + address, x, () -> x.query(0, address, 2, 0, false));
            Check.noArgument("query, address " + address + " and more", x, () -> x.query(0, address, 8, -1, false));
        }
        for (int group : new int[] {-2, 8, Integer.MAX_VALUE, Integer.MIN_VALUE}) {
            Check.noIndex("query, group " + group, x, () -> x.query(0, 1, group, 0, false));
            Check.noIndex("query, group " + group + " and more", x, () -> x.query(0, 1, group, -1, true));
            Check.noIndex("query passed over, group " + group, x, () -> x.query(0, 700, group, 0, false));
        }
        for (int set : new int[] {-1, 65536, Integer.MAX_VALUE, Integer.MIN_VALUE}) {
            Check.noArgument("query, set " + set, x, () -> x.query(0, 1, 2, set, false));
            Check.noArgument("general query, set " + set, x, () -> x.query(0, 1, GroupFilters.NONE, set, true));
            Check.noArgument("query passed over, set " + set, x, () -> x.query(0, 700, 2, set, false));
        }
        Check.due("the edges of the address", x.query(0, 999, 7, 65535, true), true);
        Check.due("the edges of the address", x.query(0, 0, 7, 65535, true), false);
    }

    private static void latestQueries() {
        GroupFilters x = new GroupFilters(3);
        x.report(2, 7, GroupFilters.IN, 65535);
        x.tick(5);
        x.report(2, 7, GroupFilters.BLOCK, 32769);
        Check.due("sent", x.sent(), 1);
        Check.query("of sources", x, 0, 2, 7, 32769, 5);
        x.report(1, 3, GroupFilters.EX, 0);
        x.report(1, 3, GroupFilters.TO_IN, 0);
        Check.query("of the group", x, 0, 1, 3, 0, 5);
        x.tick(15);
        Check.due("sent", x.sent(), 5);
        Check.query("general, the last link last", x, 0, 2, GroupFilters.NONE, 0, 20);
        Check.query("general", x, 1, 1, GroupFilters.NONE, 0, 20);
        Check.query("general, the first link first", x, 2, 0, GroupFilters.NONE, 0, 20);
        Check.query("before", x, 3, 1, 3, 0, 5);
        Check.query("at first", x, 4, 2, 7, 32769, 5);
        Check.noIndex("asked(5, 0)", x, () -> x.asked(5, 0));
    }

    private static void fortyQueries() {
        GroupFilters x = new GroupFilters(1);
        x.settings(0, 1, 1, 1);
        x.tick(39);
        Check.noIndex("asked(39, 3) of 39", x, () -> x.asked(39, 3));
        x.tick(1);
        Check.query("the first of 40", x, 39, 0, -1, 0, 1);
        x.tick(61);
        Check.due("sent", x.sent(), 101);
        for (int k = 0; k < 40; k++) {
            Check.query("of 101", x, k, 0, -1, 0, 101 - k);
        }
        Check.noIndex("asked(40, 3) of 101", x, () -> x.asked(40, 3));
    }

    private static void records() {
        GroupFilters x = new GroupFilters(2);
        x.report(0, 0, GroupFilters.EX, 0);
        x.report(0, 7, GroupFilters.IN, 1);
        x.report(0, 3, GroupFilters.IN, 0);
        Check.due("records", x.told(0, 4), 2);
        Check.due("records of the other link", x.told(1, 4), 0);
        x.tick(44);
        Check.due("records that are over", x.told(0, 4), 0);
    }

    private static void refusedLooks() {
        GroupFilters x = new GroupFilters(2);
        Check.noIndex("asked(0, 0) of none", x, () -> x.asked(0, 0));
        Check.noIndex("asked(0, 4) of none", x, () -> x.asked(0, 4));
        x.tick(20);
        for (int k : new int[] {-1, 2, 40, Integer.MAX_VALUE, Integer.MIN_VALUE}) {
            Check.noIndex("asked(" + k + ", 0)", x, () -> x.asked(k, 0));
            Check.noIndex("asked(" + k + ", -1)", x, () -> x.asked(k, -1));
        }
        for (int what : new int[] {-1, 4, Integer.MAX_VALUE, Integer.MIN_VALUE}) {
            Check.noArgument("asked(0, " + what + ")", x, () -> x.asked(0, what));
        }
        for (int link : new int[] {-1, 2, Integer.MAX_VALUE, Integer.MIN_VALUE}) {
            Check.noIndex("told(" + link + ", 0)", x, () -> x.told(link, 0));
            Check.noIndex("told(" + link + ", 6)", x, () -> x.told(link, 6));
        }
        for (int what : new int[] {-1, 6, Integer.MAX_VALUE, Integer.MIN_VALUE}) {
            Check.noArgument("told(1, " + what + ")", x, () -> x.told(1, what));
        }
    }
}
