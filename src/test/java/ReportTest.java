/** Promise 3: report, each kind on a record that includes and on one that excludes. */
public final class ReportTest {
    private static final int GRACE = 23;
    private static final int LAST = 2;

    public static void main(String[] args) {
        onNoRecord();
        inclusion();
        exclusion();
        toInclusion();
        toExclusion();
        blocking();
        withoutAsking();
        timersNotAboveLastStay();
        otherGroupsAndLinksStay();
        ofNoSources();
        ofAllSources();
        sourcesJustAboveLast();
        ownTimerJustAboveLast();
        ownTimerAsItWas();
        excludesNone();
        eachSourceAndGroup();
        Check.end();
    }

    /** Group 1 of link 0 includes 0, 1 (timers 19) and 2 (23). */
    private static GroupFilters including() {
        GroupFilters x = new GroupFilters(2);
        x.settings(0, 2, 10, 3);
        x.report(0, 1, GroupFilters.IN, 3);
        x.tick(4);
        x.report(0, 1, GroupFilters.ALLOW, 4);
        return x;
    }

    /** Group 1 of link 0 excludes: X is 0 (timer 15) and 1 (19); Y is 2 and 3; GT is 21. */
    private static GroupFilters excluding() {
        GroupFilters x = new GroupFilters(2);
        x.settings(0, 2, 10, 3);
        x.report(0, 1, GroupFilters.IN, 1);
        x.tick(4);
        x.report(0, 1, GroupFilters.IN, 2);
        x.tick(2);
        x.report(0, 1, GroupFilters.EX, 15);
        x.tick(2);
        Check.record("excluding", x, 0, 1, 1, 3, 12, 21);
        Check.timers("excluding", x, 0, 1, 15, 19, 0, 0, 0, 0);
        return x;
    }

    private static int send(GroupFilters x, int kind, int set) {
        int before = x.sent();
        int many = x.report(0, 1, kind, set);
        Check.due("what report(0, 1, " + kind + ", " + set + ") tells of queries", many, x.sent() - before);
        return many;
    }

    private static void onNoRecord() {
        int[] kinds = {0, 1, 2, 3, 4, 5};
        int[][] ofNone = {{-1, 0, 0, 0}, {1, 0, 0, 44}, {-1, 0, 0, 0}, {1, 0, 0, 44}, {-1, 0, 0, 0}, {-1, 0, 0, 0}};
        int[][] ofSome = {{0, 5, 0, 0}, {1, 0, 5, 44}, {0, 5, 0, 0}, {1, 0, 5, 44}, {0, 5, 0, 0}, {-1, 0, 0, 0}};
        for (int kind : kinds) {
            GroupFilters x = new GroupFilters(1);
            Check.due("queries", x.report(0, 0, kind, 0), 0);
            Check.record("no record, kind " + kind + " of none", x, 0, 0, ofNone[kind]);
            x = new GroupFilters(1);
            Check.due("queries", x.report(0, 7, kind, 5), 0);
            Check.record("no record, kind " + kind + " of some", x, 0, 7, ofSome[kind]);
            Check.due("records", x.told(0, 4), kind == 5 ? 0 : 1);
            Check.due("timer", x.timer(0, 7, 2), kind % 2 == 0 ? 44 : 0);
        }
        GroupFilters x = new GroupFilters(1);
        x.report(0, 0, GroupFilters.IN, 65535);
        Check.record("all sources", x, 0, 0, 0, 65535, 0, 0);
        Check.due("timer of the last one", x.timer(0, 0, 15), 44);
    }

    private static void inclusion() {
        for (int kind : new int[] {GroupFilters.IN, GroupFilters.ALLOW}) {
            GroupFilters x = including();
            Check.due("queries", send(x, kind, 10), 0);
            Check.record("includes, kind " + kind, x, 0, 1, 0, 15, 0, 0);
            Check.timers("includes, kind " + kind, x, 0, 1, 19, GRACE, 23, GRACE, 0);
            x = excluding();
            Check.due("queries", send(x, kind, 22), 0);
            Check.record("excludes, kind " + kind, x, 0, 1, 1, 23, 8, 21);
            Check.timers("excludes, kind " + kind, x, 0, 1, 15, GRACE, GRACE, 0, GRACE);
            x = excluding();
            Check.due("queries", send(x, kind, 0), 0);
            Check.record("excludes, kind " + kind + " of none", x, 0, 1, 1, 3, 12, 21);
        }
        GroupFilters x = including();
        x.settings(0, 1, 1, 1);
        send(x, GroupFilters.IN, 1);
        Check.due("a longer timer becomes GRACE, too", x.timer(0, 1, 0), 2);
    }

    private static void exclusion() {
        GroupFilters x = including();
        Check.due("queries", send(x, GroupFilters.EX, 10), 0);
        Check.record("includes, EX", x, 0, 1, 1, 2, 8, GRACE);
        Check.timers("includes, EX", x, 0, 1, 0, 19, 0, 0, 0);
        x = excluding();
        Check.due("queries", send(x, GroupFilters.EX, 22), 0);
        Check.record("excludes, EX", x, 0, 1, 1, 18, 4, GRACE);
        Check.timers("excludes, EX", x, 0, 1, 0, 19, 0, 0, GRACE, 0);
        x = excluding();
        send(x, GroupFilters.EX, 0);
        Check.record("excludes, EX of none", x, 0, 1, 1, 0, 0, GRACE);
        Check.timers("excludes, EX of none", x, 0, 1, 0, 0, 0, 0, 0);
    }

    private static void toInclusion() {
        GroupFilters x = including();
        Check.due("queries", send(x, GroupFilters.TO_IN, 10), 1);
        Check.record("includes, TO_IN", x, 0, 1, 0, 15, 0, 0);
        Check.timers("includes, TO_IN", x, 0, 1, LAST, GRACE, LAST, GRACE, 0);
        Check.query("includes, TO_IN", x, 0, 0, 1, 5, 4);
        x = including();
        Check.due("queries if all are told", send(x, GroupFilters.TO_IN, 7), 0);
        x = excluding();
        Check.due("queries", send(x, GroupFilters.TO_IN, 22), 2);
        Check.record("excludes, TO_IN", x, 0, 1, 1, 23, 8, LAST);
        Check.timers("excludes, TO_IN", x, 0, 1, LAST, GRACE, GRACE, 0, GRACE);
        Check.query("excludes, TO_IN, sources first", x, 1, 0, 1, 1, 8);
        Check.query("excludes, TO_IN, then the group", x, 0, 0, 1, 0, 8);
        x = excluding();
        Check.due("the group alone", send(x, GroupFilters.TO_IN, 3), 1);
        Check.query("the group alone", x, 0, 0, 1, 0, 8);
        Check.record("the group alone", x, 0, 1, 1, 3, 12, LAST);
        Check.timers("the group alone", x, 0, 1, GRACE, GRACE, 0, 0);
    }

    private static void toExclusion() {
        GroupFilters x = including();
        Check.due("queries", send(x, GroupFilters.TO_EX, 10), 1);
        Check.record("includes, TO_EX", x, 0, 1, 1, 2, 8, GRACE);
        Check.timers("includes, TO_EX", x, 0, 1, 0, LAST, 0, 0, 0);
        Check.query("includes, TO_EX", x, 0, 0, 1, 2, 4);
        x = including();
        Check.due("queries if none is in both", send(x, GroupFilters.TO_EX, 8), 0);
        Check.record("none in both", x, 0, 1, 1, 0, 8, GRACE);
        x = excluding();
        Check.due("queries", send(x, GroupFilters.TO_EX, 22), 1);
        Check.record("excludes, TO_EX", x, 0, 1, 1, 18, 4, GRACE);
        Check.timers("excludes, TO_EX", x, 0, 1, 0, LAST, 0, 0, LAST);
        Check.query("excludes, TO_EX", x, 0, 0, 1, 18, 8);
        x = excluding();
        Check.due("queries if all are in Y", send(x, GroupFilters.TO_EX, 4), 0);
        Check.record("all in Y", x, 0, 1, 1, 0, 4, GRACE);
    }

    private static void blocking() {
        GroupFilters x = including();
        Check.due("queries", send(x, GroupFilters.BLOCK, 10), 1);
        Check.record("includes, BLOCK", x, 0, 1, 0, 7, 0, 0);
        Check.timers("includes, BLOCK", x, 0, 1, 19, LAST, 23, 0, 0);
        Check.query("includes, BLOCK", x, 0, 0, 1, 2, 4);
        x = including();
        Check.due("queries if none is in both", send(x, GroupFilters.BLOCK, 8), 0);
        x = excluding();
        Check.due("queries", send(x, GroupFilters.BLOCK, 22), 1);
        Check.record("excludes, BLOCK", x, 0, 1, 1, 19, 12, 21);
        Check.timers("excludes, BLOCK", x, 0, 1, 15, LAST, 0, 0, LAST);
        Check.query("excludes, BLOCK", x, 0, 0, 1, 18, 8);
        x = excluding();
        Check.due("queries if all are in Y", send(x, GroupFilters.BLOCK, 12), 0);
        Check.record("all in Y", x, 0, 1, 1, 3, 12, 21);
    }

    /** The timers that are told to become something do, but nothing is sent and nothing is lowered. */
    private static void withoutAsking() {
        int[][] included = {{0, 15, 0, 0}, {1, 2, 8, GRACE}, {0, 7, 0, 0}};
        int[][] includedTimers = {{19, GRACE, 23, GRACE, 0}, {0, 19, 0, 0, 0}, {19, 19, 23, 0, 0}};
        int[][] excluded = {{1, 23, 8, 21}, {1, 18, 4, GRACE}, {1, 19, 12, 21}};
        int[][] excludedTimers = {{15, GRACE, GRACE, 0, GRACE}, {0, 19, 0, 0, 21}, {15, 19, 0, 0, 21}};
        int[] kinds = {GroupFilters.TO_IN, GroupFilters.TO_EX, GroupFilters.BLOCK};
        for (int i = 0; i < 3; i++) {
            GroupFilters x = including();
            x.query(0, 499, GroupFilters.NONE, 0, false);
            Check.due("queries", send(x, kinds[i], 10), 0);
            Check.record("not asking, includes, kind " + kinds[i], x, 0, 1, included[i]);
            Check.timers("not asking, includes, kind " + kinds[i], x, 0, 1, includedTimers[i]);
            x = excluding();
            x.query(0, 499, GroupFilters.NONE, 0, false);
            Check.due("queries", send(x, kinds[i], 22), 0);
            Check.record("not asking, excludes, kind " + kinds[i], x, 0, 1, excluded[i]);
            Check.timers("not asking, excludes, kind " + kinds[i], x, 0, 1, excludedTimers[i]);
        }
    }

    private static void timersNotAboveLastStay() {
        GroupFilters x = new GroupFilters(1);
        x.report(0, 0, GroupFilters.IN, 3);
        x.tick(43);
        Check.due("asked all the same", x.report(0, 0, GroupFilters.BLOCK, 1), 1);
        Check.timers("at 1", x, 0, 0, 1, 1);
        x = new GroupFilters(1);
        x.report(0, 0, GroupFilters.EX, 3);
        x.tick(43);
        Check.due("asked all the same", x.report(0, 0, GroupFilters.TO_IN, 0), 1);
        Check.due("GT at 1", x.groupTimer(0, 0), 1);
        Check.due("asked of what gets GT", x.report(0, 0, GroupFilters.BLOCK, 8), 1);
        Check.due("it has GT", x.timer(0, 0, 3), 1);
    }

    private static void otherGroupsAndLinksStay() {
        GroupFilters x = new GroupFilters(2);
        x.report(0, 0, GroupFilters.EX, 1);
        Check.record("another group", x, 0, 1, -1, 0, 0, 0);
        Check.record("another link", x, 1, 0, -1, 0, 0, 0);
        x.query(0, 3, GroupFilters.NONE, 0, false);
        x.report(1, 0, GroupFilters.EX, 0);
        Check.due("asked on the link where it asks", x.report(1, 0, GroupFilters.TO_IN, 0), 1);
        Check.query("there", x, 0, 1, 0, 0, 0);
        Check.due("GT there", x.groupTimer(1, 0), LAST);
        Check.due("GT here", x.groupTimer(0, 0), 44);
    }

    /** A set that is empty: nothing is asked of an empty set, and what is told of B is told of nothing. */
    private static void ofNoSources() {
        int[] queries = {0, 0, 1, 0, 0, 0};
        int[][] records = {{0, 7, 0, 0}, {1, 0, 0, GRACE}, {0, 7, 0, 0}, {1, 0, 0, GRACE}, {0, 7, 0, 0}, {0, 7, 0, 0}};
        int[][] timers = {{19, 19, 23}, {0, 0, 0}, {LAST, LAST, LAST}, {0, 0, 0}, {19, 19, 23}, {19, 19, 23}};
        int[] queriesOfEx = {0, 0, 2, 0, 0, 0};
        int[][] recordsOfEx = {{1, 3, 12, 21}, {1, 0, 0, GRACE}, {1, 3, 12, LAST}, {1, 0, 0, GRACE}, {1, 3, 12, 21},
            {1, 3, 12, 21}};
        int[][] timersOfEx = {{15, 19, 0}, {0, 0, 0}, {LAST, LAST, 0}, {0, 0, 0}, {15, 19, 0}, {15, 19, 0}};
        for (int kind = 0; kind < 6; kind++) {
            GroupFilters x = including();
            Check.due("includes, kind " + kind + " of none: queries", send(x, kind, 0), queries[kind]);
            Check.record("includes, kind " + kind + " of none", x, 0, 1, records[kind]);
            Check.timers("includes, kind " + kind + " of none", x, 0, 1, timers[kind]);
            x = excluding();
            Check.due("excludes, kind " + kind + " of none: queries", send(x, kind, 0), queriesOfEx[kind]);
            Check.record("excludes, kind " + kind + " of none", x, 0, 1, recordsOfEx[kind]);
            Check.timers("excludes, kind " + kind + " of none", x, 0, 1, timersOfEx[kind]);
        }
    }

    /** "The set is not 0 .. 65535" is refused: 65535 itself is all sources. */
    private static void ofAllSources() {
        int[] ofNone = {0, 1, 0, 1, 0, GroupFilters.NONE};
        int[] queries = {0, 0, 0, 1, 0, 1};
        int[][] records = {{0, 65535, 0, 0}, {1, 7, 65528, GRACE}, {0, 65535, 0, 0}, {1, 7, 65528, GRACE},
            {0, 65535, 0, 0}, {0, 7, 0, 0}};
        int[] lastTimers = {GRACE, 0, GRACE, 0, GRACE, 0};
        int[] queriesOfEx = {0, 0, 1, 1, 0, 1};
        int[][] recordsOfEx = {{1, 65535, 0, 21}, {1, 65523, 12, GRACE}, {1, 65535, 0, LAST}, {1, 65523, 12, GRACE},
            {1, 65535, 0, 21}, {1, 65523, 12, 21}};
        int[] lastTimersOfEx = {GRACE, GRACE, GRACE, LAST, GRACE, LAST};
        for (int kind = 0; kind < 6; kind++) {
            GroupFilters x = new GroupFilters(1);
            Check.due("no record, kind " + kind + " of all: queries", x.report(0, 1, kind, 65535), 0);
            Check.due("no record, kind " + kind + " of all: mode", x.mode(0, 1), ofNone[kind]);
            Check.due("no record, kind " + kind + " of all: running", x.sources(0, 1, true),
                ofNone[kind] == 0 ? 65535 : 0);
            Check.due("no record, kind " + kind + " of all: stopped", x.sources(0, 1, false),
                ofNone[kind] == 1 ? 65535 : 0);
            x = including();
            Check.due("includes, kind " + kind + " of all: queries", send(x, kind, 65535), queries[kind]);
            Check.record("includes, kind " + kind + " of all", x, 0, 1, records[kind]);
            Check.due("includes, kind " + kind + " of all: timer", x.timer(0, 1, 15), lastTimers[kind]);
            x = excluding();
            Check.due("excludes, kind " + kind + " of all: queries", send(x, kind, 65535), queriesOfEx[kind]);
            Check.record("excludes, kind " + kind + " of all", x, 0, 1, recordsOfEx[kind]);
            Check.due("excludes, kind " + kind + " of all: timer", x.timer(0, 1, 15), lastTimersOfEx[kind]);
        }
        GroupFilters x = excluding();
        send(x, GroupFilters.TO_EX, 65535);
        Check.query("what is asked of all but Y", x, 0, 0, 1, 65523, 8);
        x = including();
        send(x, GroupFilters.BLOCK, 65535);
        Check.query("what is asked of A alone", x, 0, 0, 1, 7, 4);
    }

    /** Group 1 of link 0 includes 0, 1 and 2, with timers one below LAST, at LAST and one above it. */
    private static GroupFilters nearLast() {
        GroupFilters x = new GroupFilters(2);
        x.settings(0, 2, 10, 3);
        for (int s = 0; s < 3; s++) {
            x.tick(1);
            x.report(0, 1, GroupFilters.IN, 1 << s);
        }
        x.tick(20);
        Check.timers("near LAST", x, 0, 1, LAST - 1, LAST, LAST + 1);
        return x;
    }

    /** "Timers of these sources (or GT) that are above LAST become LAST." */
    private static void sourcesJustAboveLast() {
        int[][] reports = {{GroupFilters.TO_IN, 0}, {GroupFilters.TO_EX, 7}, {GroupFilters.BLOCK, 7}};
        for (int[] report : reports) {
            GroupFilters x = nearLast();
            Check.due("queries", send(x, report[0], report[1]), 1);
            Check.query("asked of each, lowered or not", x, 0, 0, 1, 7, 23);
            Check.timers("includes, kind " + report[0], x, 0, 1, LAST - 1, LAST, LAST);
            x = nearLast();
            x.report(0, 1, GroupFilters.EX, 7);
            send(x, report[0], report[1]);
            Check.query("asked of each, lowered or not", x, report[0] == GroupFilters.TO_IN ? 1 : 0, 0, 1, 7, 23);
            Check.timers("excludes, kind " + report[0], x, 0, 1, LAST - 1, LAST, LAST);
        }
    }

    private static void ownTimerJustAboveLast() {
        int[] due = {LAST - 1, LAST, LAST};
        for (int i = 0; i < 3; i++) {
            GroupFilters x = new GroupFilters(1);
            x.report(0, 1, GroupFilters.EX, 1);
            int before = LAST - 1 + i;
            x.tick(44 - before);
            Check.due("GT", x.groupTimer(0, 1), before);
            Check.due("queries", send(x, GroupFilters.TO_IN, 0), 1);
            Check.due("GT of " + before + " that is asked for", x.groupTimer(0, 1), due[i]);
        }
    }

    /**
     * "(B - X - Y) = GT as it was; then ASK": behind the own timer's 1 nothing is lowered, nor raised; above
     * LAST it is lowered only where the router asks; and the own timer of TO_EX is GRACE all the same.
     */
    private static void ownTimerAsItWas() {
        for (int kind : new int[] {GroupFilters.TO_EX, GroupFilters.BLOCK}) {
            for (int before = 1; before <= 4; before++) {
                for (int asks = 0; asks < 2; asks++) {
                    GroupFilters x = new GroupFilters(1);
                    x.report(0, 1, GroupFilters.EX, 1);
                    x.tick(44 - before);
                    x.query(0, asks == 1 ? 999 : 0, GroupFilters.NONE, 0, false);
                    Check.due("queries", send(x, kind, 5), asks);
                    String when = "kind " + kind + ", GT " + before + (asks == 1 ? ", asks" : ", does not ask");
                    Check.record(when, x, 0, 1, 1, 4, 1, kind == GroupFilters.BLOCK ? before : 44);
                    Check.timers(when, x, 0, 1, 0, 0, asks == 1 ? Math.min(before, LAST) : before, 0);
                }
            }
        }
    }

    /** "What includes none, has no record": what excludes none has one. */
    private static void excludesNone() {
        GroupFilters x = new GroupFilters(2);
        x.report(0, 0, GroupFilters.EX, 0);
        Check.record("excludes none", x, 0, 0, 1, 0, 0, 44);
        Check.due("records", x.told(0, 4), 1);
        Check.due("all is passed on", x.passed(1, 0, 15), 1);
        x.report(0, 0, GroupFilters.ALLOW, 65535);
        Check.record("all allowed, it excludes still", x, 0, 0, 1, 65535, 0, 44);
        x.report(0, 0, GroupFilters.EX, 0);
        Check.record("X is gone", x, 0, 0, 1, 0, 0, 44);
    }

    /** Groups 0 .. 7, sources 0 .. 15 "2^s for each": each one has a timer of its own. */
    private static void eachSourceAndGroup() {
        for (int g = 0; g < 8; g++) {
            GroupFilters x = new GroupFilters(4);
            for (int s = 0; s < 16; s++) {
                x.report(3, g, GroupFilters.IN, 1 << s);
                Check.due("sources", x.sources(3, g, true), (2 << s) - 1);
                x.tick(1);
            }
            for (int s = 0; s < 16; s++) {
                Check.due("timer of " + s, x.timer(3, g, s), 28 + s);
            }
            Check.due("records", x.told(3, 4), 1);
            for (int s = 0; s < 16; s++) {
                x.report(3, g, GroupFilters.BLOCK, 1 << s);
                Check.query("of one source", x, 0, 3, g, 1 << s, 16);
                Check.due("timer of " + s, x.timer(3, g, s), LAST);
            }
        }
    }
}
