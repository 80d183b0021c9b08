/** Promises 4 (query), 14 (sent), 15 (asked) and 16 (told). */
public final class QueryTest {
    public static void main(String[] args) {
        whoAsks();
        passedOver();
        leastAddress();
        lowering();
        notLowering();
        asksAgain();
        addressesAtTheirEdges();
        waitToItsEnd();
        waitBeginsAnew();
        leastSinceItLastAsked();
        sourcesJustAboveLast();
        ownTimerJustAboveLast();
        suppressedStillYields();
        generalQueryLowersNothing();
        groupsAtTheirEdges();
        latestQueries();
        fortyQueries();
        fortyQueriesOfReports();
        sentByEach();
        records();
        recordsFull();
        toldOfEachLink();
        Check.end();
    }

    private static boolean general(GroupFilters x, int link, int address) {
        return x.query(link, address, GroupFilters.NONE, 0, false);
    }

    private static void whoAsks() {
        GroupFilters x = new GroupFilters(2);
        Check.due("query of 499", general(x, 0, 499), false);
        Check.asker("499", x, 0, 499, 42, 0);
        Check.asker("the other link", x, 1, 500, 0, 20);
        Check.due("one query by 20 ticks", x.tick(20), 1);
        Check.query("on the other link", x, 0, 1, GroupFilters.NONE, 0, 20);
        Check.due("query of 0", general(x, 1, 0), false);
        Check.asker("0", x, 1, 0, 42, 0);
        x = new GroupFilters(1);
        x.settings(0, 1, 1, 1);
        general(x, 0, 1);
        Check.due("the shortest time", x.told(0, 3), 1);
        x = new GroupFilters(1);
        x.settings(0, 7, 200, 199);
        general(x, 0, 1);
        Check.due("d / 2 downward", x.told(0, 3), 1499);
    }

    private static void passedOver() {
        GroupFilters x = new GroupFilters(1);
        x.report(0, 0, GroupFilters.EX, 0);
        x.tick(3);
        for (int address : new int[] {500, 501, 999}) {
            Check.due("query of " + address, x.query(0, address, 0, 0, false), true);
            Check.asker("of " + address, x, 0, 500, 0, 17);
            Check.due("GT stays", x.groupTimer(0, 0), 41);
        }
        general(x, 0, 300);
        x.tick(2);
        Check.due("query of 500 while another asks", x.query(0, 500, 0, 0, false), false);
        Check.asker("500 is passed over", x, 0, 300, 40, 0);
        Check.due("GT stays", x.groupTimer(0, 0), 39);
    }

    private static void leastAddress() {
        GroupFilters x = new GroupFilters(1);
        general(x, 0, 300);
        x.tick(10);
        general(x, 0, 400);
        Check.asker("a higher one begins the time anew", x, 0, 300, 42, 0);
        x.tick(10);
        general(x, 0, 100);
        Check.asker("a lower one is told", x, 0, 100, 42, 0);
        x.tick(41);
        Check.asker("one tick before", x, 0, 100, 1, 0);
        x.tick(1);
        Check.asker("it asks again", x, 0, 500, 0, 20);
        general(x, 0, 450);
        Check.asker("only those since it last asked", x, 0, 450, 42, 0);
    }

    /** Group 2 of link 0 excludes: X is 0 and 1 (timers 44), Y is 2, GT is 44. */
    private static GroupFilters excluding() {
        GroupFilters x = new GroupFilters(1);
        x.report(0, 2, GroupFilters.IN, 3);
        x.report(0, 2, GroupFilters.EX, 7);
        return x;
    }

    private static void lowering() {
        GroupFilters x = excluding();
        Check.due("query of some sources", x.query(0, 10, 2, 13, false), false);
        Check.timers("those alone", x, 0, 2, 2, 44, 0, 0);
        Check.record("nothing else", x, 0, 2, 1, 3, 4, 44);
        x = excluding();
        x.query(0, 10, 2, 0, false);
        Check.timers("of the group", x, 0, 2, 44, 44, 0, 0);
        Check.record("of the group", x, 0, 2, 1, 3, 4, 2);
        x.tick(1);
        x.query(0, 10, 2, 0, false);
        Check.due("GT below LAST stays", x.groupTimer(0, 2), 1);
        x = new GroupFilters(1);
        x.settings(0, 5, 10, 1);
        x.report(0, 0, GroupFilters.IN, 6);
        x.query(0, 10, 0, 0, false);
        Check.record("a group that includes has no GT", x, 0, 0, 0, 6, 0, 0);
        Check.timers("nor is it for the sources", x, 0, 0, 0, 51, 51);
        x.query(0, 10, 0, 65535, false);
        Check.timers("LAST by the settings", x, 0, 0, 0, 5, 5, 0);
        Check.record("no source comes in", x, 0, 0, 0, 6, 0, 0);
        Check.due("such a query is not sent", x.sent(), 0);
        x.query(0, 10, 1, 65535, false);
        Check.record("no record comes in", x, 0, 1, -1, 0, 0, 0);
    }

    private static void notLowering() {
        GroupFilters x = excluding();
        Check.due("suppressed", x.query(0, 10, 2, 3, true), false);
        x.query(0, 10, 2, 0, true);
        x.query(0, 10, GroupFilters.NONE, 3, false);
        x.query(0, 10, GroupFilters.NONE, 0, false);
        x.query(0, 10, 3, 3, false);
        x.query(0, 600, 2, 3, false);
        Check.record("not lowered", x, 0, 2, 1, 3, 4, 44);
        Check.timers("not lowered", x, 0, 2, 44, 44, 0, 0);
    }

    private static void asksAgain() {
        GroupFilters x = new GroupFilters(1);
        x.tick(19);
        general(x, 0, 1);
        Check.due("no queries meanwhile, nor when it asks again", x.tick(42), 0);
        Check.asker("asks again", x, 0, 500, 0, 20);
        Check.due("nor in the interval", x.tick(19), 0);
        Check.due("then one", x.tick(1), 1);
        Check.query("then one", x, 0, 0, GroupFilters.NONE, 0, 81);
        general(x, 0, 1);
        Check.due("42 ticks without, then one each 20", x.tick(42 + 60), 3);
        Check.query("the first of them", x, 2, 0, GroupFilters.NONE, 0, 143);
    }

    private static void latestQueries() {
        GroupFilters x = new GroupFilters(3);
        x.report(2, 7, GroupFilters.IN, 65535);
        x.tick(5);
        x.report(2, 7, GroupFilters.BLOCK, 32769);
        Check.due("sent", x.sent(), 1);
        Check.query("of sources", x, 0, 2, 7, 32769, 5);
        x.report(1, 3, GroupFilters.EX, 0);
        x.report(1, 3, GroupFilters.TO_IN, 0);
        Check.query("of the group", x, 0, 1, 3, 0, 5);
        x.tick(15);
        Check.due("sent", x.sent(), 5);
        Check.query("general, the last link last", x, 0, 2, GroupFilters.NONE, 0, 20);
        Check.query("general", x, 1, 1, GroupFilters.NONE, 0, 20);
        Check.query("general, the first link first", x, 2, 0, GroupFilters.NONE, 0, 20);
        Check.query("before", x, 3, 1, 3, 0, 5);
        Check.query("at first", x, 4, 2, 7, 32769, 5);
        Check.noIndex("asked(5, 0)", () -> x.asked(5, 0));
    }

    /** "The query that was sent k before the latest one (0 .. 39)": 40 are kept, however many were sent. */
    private static void fortyQueries() {
        for (int sent : new int[] {1, 2, 39, 40, 41, 79, 80, 81, 119, 120, 121, 2000}) {
            GroupFilters x = new GroupFilters(1);
            x.settings(0, 1, 1, 1);
            Check.due("queries", x.tick(sent), sent);
            Check.due("sent", x.sent(), sent);
            int kept = Math.min(sent, 40);
            for (int k = 0; k < kept; k++) {
                Check.query("of " + sent, x, k, 0, GroupFilters.NONE, 0, sent - k);
            }
            Check.noIndex("asked(" + kept + ", 3) of " + sent, () -> x.asked(kept, 3));
        }
    }

    /** The same with queries of reports: each column of the forty is that of the same query. */
    private static void fortyQueriesOfReports() {
        GroupFilters x = new GroupFilters(4);
        for (int i = 0; i < 43; i++) {
            int link = i % 4;
            int group = i % 7 + 1;
            int set = i + 1;
            x.report(link, group, GroupFilters.IN, set);
            Check.due("a query", x.report(link, group, GroupFilters.BLOCK, set), 1);
            x.tick(i % 2);
        }
        Check.due("sent: one general query a link by 21 ticks", x.sent(), 47);
        int[] due = new int[47 * 4];
        int at = 0;
        for (int i = 0; i < 43; i++) {
            at = put(due, at, i % 4, i % 7 + 1, i + 1, i / 2);
            for (int l = 0; l < 4 && i == 39; l++) {
                at = put(due, at, l, GroupFilters.NONE, 0, 20);
            }
        }
        for (int k = 0; k < 40; k++) {
            int row = (46 - k) * 4;
            Check.query("of 47", x, k, due[row], due[row + 1], due[row + 2], due[row + 3]);
        }
        Check.noIndex("asked(40, 0) of 47", () -> x.asked(40, 0));
    }

    private static int put(int[] rows, int at, int... row) {
        System.arraycopy(row, 0, rows, at, row.length);
        return at + row.length;
    }

    private static void records() {
        GroupFilters x = new GroupFilters(2);
        x.report(0, 0, GroupFilters.EX, 0);
        x.report(0, 7, GroupFilters.IN, 1);
        x.report(0, 3, GroupFilters.IN, 0);
        Check.due("records", x.told(0, 4), 2);
        Check.due("records of the other link", x.told(1, 4), 0);
        x.tick(44);
        Check.due("records that are over", x.told(0, 4), 0);
    }

    /** "An ADDRESS, 0 .. 999; this one's is 500. One below 500 [...] One above is passed over; with 500, too." */
    private static void addressesAtTheirEdges() {
        int[] below = {0, 1, 498, 499};
        int[] above = {500, 501, 998, 999};
        for (int i = 0; i < 4; i++) {
            GroupFilters x = excluding();
            Check.due("query of " + below[i], x.query(0, below[i], 2, 0, false), false);
            Check.asker("query of " + below[i], x, 0, below[i], 42, 0);
            Check.due("it lowers GT", x.groupTimer(0, 2), 2);
            Check.due("then none asks for the sources", x.report(0, 2, GroupFilters.BLOCK, 1), 0);
            x = excluding();
            Check.due("query of " + above[i], x.query(0, above[i], 2, 0, false), true);
            Check.asker("query of " + above[i], x, 0, 500, 0, 20);
            Check.due("it lowers no GT", x.groupTimer(0, 2), 44);
            x.query(0, above[i], 2, 3, false);
            Check.due("and no timer", x.timer(0, 2, 0), 44);
            Check.due("the router asks for the sources", x.report(0, 2, GroupFilters.BLOCK, 1), 1);
        }
    }

    /** "The router does not ask there any more, for r q + d / 2 ticks (downward [...])" */
    private static void waitToItsEnd() {
        for (int d = 1; d <= 5; d++) {
            GroupFilters x = excluding();
            x.settings(0, 2, 5, d);
            general(x, 0, 3);
            Check.due("no query meanwhile", x.tick(9 + d / 2), 0);
            Check.asker("one tick before, d is " + d, x, 0, 3, 1, 0);
            Check.due("it does not ask yet", x.report(0, 2, GroupFilters.BLOCK, 1), 0);
            Check.due("no query as it asks again", x.tick(1), 0);
            Check.asker("asks again, d is " + d, x, 0, 500, 0, 5);
            Check.due("it asks", x.report(0, 2, GroupFilters.BLOCK, 1), 1);
            Check.query("it asks", x, 0, 0, 2, 1, 10 + d / 2);
        }
    }

    /** "(downward; anew with each)": with one of the same address, a higher one, a suppressed one. */
    private static void waitBeginsAnew() {
        int[] addresses = {300, 301, 499, 0};
        for (int address : addresses) {
            GroupFilters x = excluding();
            general(x, 0, 300);
            x.tick(41);
            Check.asker("one tick before", x, 0, 300, 1, 0);
            Check.due("anew", x.query(0, address, 2, 3, true), false);
            Check.asker("anew by " + address, x, 0, Math.min(address, 300), 42, 0);
            x.tick(41);
            for (int over : new int[] {500, 999}) {
                Check.due("not by what is passed over", x.query(0, over, 2, 0, false), false);
                Check.asker("not by " + over, x, 0, Math.min(address, 300), 1, 0);
            }
            x.tick(1);
            Check.asker("at last", x, 0, 500, 0, 20);
        }
    }

    /** "If several are, the least of those since it last asked is told." */
    private static void leastSinceItLastAsked() {
        GroupFilters x = new GroupFilters(2);
        int[] heard = {450, 499, 449, 450, 0, 1};
        int[] told = {450, 450, 449, 449, 0, 0};
        for (int i = 0; i < heard.length; i++) {
            general(x, 1, heard[i]);
            Check.asker("after " + heard[i], x, 1, told[i], 42, 0);
            x.tick(1);
        }
        Check.asker("another link has others", x, 0, 500, 0, 14);
        x.tick(41);
        Check.asker("it asks again", x, 1, 500, 0, 20);
        general(x, 1, 499);
        Check.asker("0 and the others were before that", x, 1, 499, 42, 0);
    }

    /** "Lowers timers as an ASK does": what is above LAST becomes LAST, with timers 1, 2 and 3 and LAST 2. */
    private static void sourcesJustAboveLast() {
        for (boolean excludes : new boolean[] {false, true}) {
            GroupFilters x = new GroupFilters(1);
            for (int s = 0; s < 3; s++) {
                x.report(0, 2, GroupFilters.IN, 1 << s);
                x.tick(1);
            }
            if (excludes) {
                x.report(0, 2, GroupFilters.EX, 15);
            }
            x.tick(40);
            Check.timers("before", x, 0, 2, 1, 2, 3, 0);
            x.query(0, 0, 2, 5, false);
            Check.timers("those of the set", x, 0, 2, 1, 2, 2, 0);
            x.query(0, 0, 2, 65535, false);
            Check.timers("all", x, 0, 2, 1, 2, 2, 0);
            Check.record("none comes in or goes", x, 0, 2, excludes ? 1 : 0, 7, excludes ? 8 : 0, excludes ? 4 : 0);
        }
    }

    private static void ownTimerJustAboveLast() {
        int[] due = {1, 2, 2};
        for (int before = 1; before <= 3; before++) {
            GroupFilters x = excluding();
            x.tick(44 - before);
            x.query(0, 499, 2, 0, false);
            Check.due("GT of " + before, x.groupTimer(0, 2), due[before - 1]);
        }
    }

    /** "If it is not SUPPRESSED" is said of the timers: who asks is settled by a suppressed one, too. */
    private static void suppressedStillYields() {
        GroupFilters x = excluding();
        Check.due("suppressed", x.query(0, 250, 2, 0, true), false);
        Check.asker("suppressed", x, 0, 250, 42, 0);
        Check.record("nothing is lowered", x, 0, 2, 1, 3, 4, 44);
        Check.due("suppressed, of sources", x.query(0, 249, 2, 1, true), false);
        Check.asker("suppressed, of sources", x, 0, 249, 42, 0);
        Check.timers("nothing is lowered", x, 0, 2, 44, 44, 0);
    }

    /** "A query [...] for a group lowers": one for all groups does not, neither GT nor the sources of its set. */
    private static void generalQueryLowersNothing() {
        for (int set : new int[] {0, 1, 65535}) {
            GroupFilters x = excluding();
            x.report(0, 7, GroupFilters.IN, 3);
            Check.due("for all groups", x.query(0, 1, GroupFilters.NONE, set, false), false);
            Check.record("for all groups, set " + set, x, 0, 2, 1, 3, 4, 44);
            Check.timers("for all groups, set " + set, x, 0, 2, 44, 44, 0);
            Check.timers("for all groups, set " + set, x, 0, 7, 44, 44, 0);
        }
    }

    private static void groupsAtTheirEdges() {
        for (int g : new int[] {0, 7}) {
            GroupFilters x = new GroupFilters(4);
            for (int other = 0; other < 8; other++) {
                x.report(3, other, GroupFilters.EX, 0);
                x.report(3, other, GroupFilters.ALLOW, 32769);
            }
            x.query(3, 9, g, 32768, false);
            for (int other = 0; other < 8; other++) {
                Check.due("source 0", x.timer(3, other, 0), 44);
                Check.due("source 15", x.timer(3, other, 15), other == g ? 2 : 44);
            }
            x.query(3, 9, g, 0, false);
            for (int other = 0; other < 8; other++) {
                Check.due("GT", x.groupTimer(3, other), other == g ? 2 : 44);
            }
            Check.due("such queries are not sent by this router", x.sent(), 0);
        }
    }

    /** "How many queries were sent in all": by reports, by members, by ticks; not those heard, nor answers. */
    private static void sentByEach() {
        GroupFilters x = new GroupFilters(2);
        Check.due("at first", x.sent(), 0);
        x.report(0, 0, GroupFilters.EX, 0);
        x.report(0, 0, GroupFilters.ALLOW, 1);
        Check.due("none by these", x.sent(), 0);
        x.report(0, 0, GroupFilters.TO_IN, 0);
        Check.due("two by one report", x.sent(), 2);
        x.member(1, 0, 0, false, 3);
        x.member(1, 0, 0, false, 1);
        Check.due("one by a member", x.sent(), 3);
        x.tick(20);
        Check.due("two by ticks", x.sent(), 5);
        x.answer(1, 0);
        x.query(0, 600, 0, 0, false);
        x.query(0, 400, 0, 0, false);
        Check.due("none by what is heard", x.sent(), 5);
        x.tick(20);
        Check.due("one by ticks, where the router asks", x.sent(), 6);
    }

    /** told, what = 4: from none to all groups, and back. */
    private static void recordsFull() {
        GroupFilters x = new GroupFilters(2);
        for (int g = 0; g < 8; g++) {
            x.report(1, g, g % 2 == 0 ? GroupFilters.EX : GroupFilters.IN, 1);
            Check.due("records", x.told(1, 4), g + 1);
        }
        x.report(1, 7, GroupFilters.EX, 0);
        Check.due("another kind of record is no more", x.told(1, 4), 8);
        Check.due("of the other link", x.told(0, 4), 0);
        x.tick(43);
        Check.due("to the end", x.told(1, 4), 8);
        x.tick(1);
        Check.due("none", x.told(1, 4), 0);
    }

    private static void toldOfEachLink() {
        GroupFilters x = new GroupFilters(4);
        int[][] due = {{44, 2, 500, 0, 0, 18}, {16, 3, 12, 12, 1, 0}, {1600, 7, 500, 0, 2, 198}, {2, 1, 500, 0, 0, 1}};
        x.settings(1, 3, 4, 4);
        x.settings(2, 7, 200, 200);
        x.settings(3, 1, 1, 1);
        x.report(1, 0, GroupFilters.IN, 1);
        x.report(2, 0, GroupFilters.IN, 1);
        x.report(2, 7, GroupFilters.EX, 1);
        x.query(1, 12, GroupFilters.NONE, 0, false);
        x.tick(2);
        for (int l = 0; l < 4; l++) {
            for (int what = 0; what < 6; what++) {
                Check.due("told(" + l + ", " + what + ")", x.told(l, what), due[l][what]);
            }
        }
    }
}
