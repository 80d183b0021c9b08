/** Promise 5: tick; with 10 (mode), 11 (sources), 12 (timer) and 13 (groupTimer) as time goes by. */
public final class TickTest {
    public static void main(String[] args) {
        noTicks();
        allInOneTick();
        including();
        excluding();
        ownTimerFirst();
        bothAtOnce();
        ownTimerWithoutSources();
        manyAtOnce();
        generalQueries();
        orderOfQueries();
        longestTimers();
        mostTicks();
        clockAtItsEdges();
        lookedAtWithoutARecord();
        sourcesThatEndOneByOne();
        eachLinkAndGroup();
        looksOfARecordThatIncludes();
        Check.end();
    }

    /** "They are not 0 .. 2000" is refused: 0 is right, and nothing comes of it. */
    private static void noTicks() {
        String before = Picture.of(TickTest::oneTickBefore);
        Check.due("tick(0)", oneTickBefore().tick(0), 0);
        Check.due("after tick(0)", Picture.of(() -> {
            GroupFilters x = oneTickBefore();
            x.tick(0);
            x.tick(0);
            return x;
        }), before);
    }

    /** All timers and clocks are at 1. */
    private static GroupFilters oneTickBefore() {
        GroupFilters x = new GroupFilters(2);
        x.settings(0, 2, 20, 5);
        x.settings(1, 1, 45, 1);
        x.report(0, 0, GroupFilters.EX, 3);
        x.report(0, 0, GroupFilters.IN, 4);
        x.report(0, 1, GroupFilters.IN, 1);
        x.tick(3);
        x.query(0, 3, GroupFilters.NONE, 0, false);
        x.tick(41);
        return x;
    }

    private static void allInOneTick() {
        GroupFilters x = oneTickBefore();
        Check.record("before", x, 0, 0, 1, 4, 3, 1);
        Check.record("before", x, 0, 1, 0, 1, 0, 0);
        Check.asker("before", x, 0, 3, 1, 0);
        Check.asker("before", x, 1, 500, 0, 1);
        Check.due("one general query", x.tick(1), 1);
        Check.asker("after", x, 0, 500, 0, 20);
        Check.asker("after", x, 1, 500, 0, 45);
        Check.query("of link 1", x, 0, 1, GroupFilters.NONE, 0, 45);
        Check.due("no record is left", x.told(0, 4), 0);
    }

    private static void including() {
        GroupFilters x = new GroupFilters(1);
        x.report(0, 0, GroupFilters.IN, 1);
        x.tick(1);
        x.report(0, 0, GroupFilters.IN, 2);
        x.tick(42);
        Check.timers("before the first is over", x, 0, 0, 1, 2, 0);
        x.tick(1);
        Check.record("the first is gone", x, 0, 0, 0, 2, 0, 0);
        Check.timers("the first is gone", x, 0, 0, 0, 1, 0);
        x.tick(1);
        Check.record("so is the record", x, 0, 0, -1, 0, 0, 0);
    }

    private static void excluding() {
        GroupFilters x = new GroupFilters(1);
        x.report(0, 0, GroupFilters.IN, 1);
        x.tick(1);
        x.report(0, 0, GroupFilters.EX, 3);
        Check.record("at first", x, 0, 0, 1, 1, 2, 44);
        x.tick(42);
        Check.record("before the source's timer is over", x, 0, 0, 1, 1, 2, 2);
        x.tick(1);
        Check.record("it is in Y", x, 0, 0, 1, 0, 3, 1);
        Check.timers("it is in Y", x, 0, 0, 0, 0);
        x.tick(1);
        Check.record("Y is gone", x, 0, 0, -1, 0, 0, 0);
    }

    private static void ownTimerFirst() {
        GroupFilters x = new GroupFilters(1);
        x.report(0, 0, GroupFilters.EX, 4);
        x.tick(1);
        x.report(0, 0, GroupFilters.ALLOW, 3);
        x.tick(43);
        Check.record("includes X", x, 0, 0, 0, 3, 0, 0);
        Check.timers("includes X", x, 0, 0, 1, 1, 0);
        x.tick(1);
        Check.record("over", x, 0, 0, -1, 0, 0, 0);
    }

    private static void bothAtOnce() {
        GroupFilters x = new GroupFilters(1);
        x.report(0, 0, GroupFilters.EX, 4);
        x.report(0, 0, GroupFilters.ALLOW, 1);
        x.tick(1);
        x.report(0, 0, GroupFilters.ALLOW, 2);
        x.tick(43);
        Check.record("what is over with GT is gone", x, 0, 0, 0, 2, 0, 0);
    }

    private static void ownTimerWithoutSources() {
        GroupFilters x = new GroupFilters(1);
        x.report(0, 0, GroupFilters.EX, 0);
        x.tick(43);
        Check.record("one before", x, 0, 0, 1, 0, 0, 1);
        x.tick(1);
        Check.record("no record", x, 0, 0, -1, 0, 0, 0);
    }

    private static GroupFilters beforeMany() {
        GroupFilters x = new GroupFilters(2);
        x.settings(0, 3, 7, 2);
        x.report(0, 0, GroupFilters.IN, 1);
        x.report(0, 1, GroupFilters.EX, 1);
        x.tick(5);
        x.report(0, 0, GroupFilters.IN, 2);
        x.report(0, 1, GroupFilters.ALLOW, 7);
        x.query(1, 3, GroupFilters.NONE, 0, false);
        return x;
    }

    private static GroupFilters afterMany(int many, boolean atOnce) {
        GroupFilters x = beforeMany();
        int sum = atOnce ? x.tick(many) : 0;
        for (int i = 0; i < many && !atOnce; i++) {
            sum += x.tick(1);
        }
        Check.due("queries by " + many + " ticks", x.sent(), sum);
        return x;
    }

    /** "So many TICKS" at once are as so many one by one. */
    private static void manyAtOnce() {
        for (int many = 0; many <= 70; many++) {
            int ticks = many;
            Check.due("after " + many + " ticks", Picture.of(() -> afterMany(ticks, true)),
                Picture.of(() -> afterMany(ticks, false)));
        }
    }

    private static void generalQueries() {
        GroupFilters x = new GroupFilters(1);
        Check.due("within the first interval", x.tick(19), 0);
        Check.due("till the next", x.told(0, 5), 1);
        Check.due("behind it", x.tick(1), 1);
        Check.due("till the next", x.told(0, 5), 20);
        Check.query("behind it", x, 0, 0, GroupFilters.NONE, 0, 20);
        Check.due("of 2000", x.tick(2000), 100);
        Check.due("in all", x.sent(), 101);
        x = new GroupFilters(4);
        for (int l = 0; l < 4; l++) {
            x.settings(l, 1, 1, 1);
        }
        Check.due("on each link at each tick", x.tick(2000), 8000);
        Check.due("no other link's record", x.told(3, 4), 0);
        x = new GroupFilters(1);
        x.report(0, 0, GroupFilters.EX, 0);
        x.report(0, 1, GroupFilters.IN, 1);
        x.tick(20);
        Check.due("a general query lowers no GT", x.groupTimer(0, 0), 24);
        Check.due("and no timer", x.timer(0, 1, 0), 24);
    }

    private static void orderOfQueries() {
        GroupFilters x = new GroupFilters(2);
        x.settings(0, 2, 7, 1);
        x.settings(1, 2, 5, 1);
        Check.due("queries by 15 ticks", x.tick(15), 5);
        int[][] due = {{1, 15}, {0, 14}, {1, 10}, {0, 7}, {1, 5}};
        for (int k = 0; k < 5; k++) {
            Check.query("in order of their ticks", x, k, due[k][0], GroupFilters.NONE, 0, due[k][1]);
        }
        Check.due("till the next of link 0", x.told(0, 5), 6);
        Check.due("till the next of link 1", x.told(1, 5), 5);
    }

    /** The longest timers that settings can make, 1600: not gone one tick before, whichever way it gets there. */
    private static void longestTimers() {
        GroupFilters x = new GroupFilters(1);
        x.settings(0, 7, 200, 200);
        x.report(0, 0, GroupFilters.EX, 2);
        x.report(0, 0, GroupFilters.ALLOW, 1);
        x.report(0, 7, GroupFilters.IN, 32768);
        Check.due("queries by 1599 ticks", x.tick(1599), 7);
        Check.record("one tick before", x, 0, 0, 1, 1, 2, 1);
        Check.timers("one tick before", x, 0, 0, 1, 0);
        Check.due("one tick before", x.timer(0, 7, 15), 1);
        Check.due("the eighth", x.tick(1), 1);
        Check.record("over", x, 0, 0, GroupFilters.NONE, 0, 0, 0);
        Check.record("over", x, 0, 7, GroupFilters.NONE, 0, 0, 0);
    }

    /** "0 .. 2000": 2000 at once. */
    private static void mostTicks() {
        GroupFilters x = new GroupFilters(1);
        x.settings(0, 7, 200, 200);
        x.report(0, 0, GroupFilters.EX, 2);
        Check.due("queries by 2000 ticks", x.tick(2000), 10);
        Check.query("the last at tick 2000", x, 0, 0, GroupFilters.NONE, 0, 2000);
        Check.query("the first at tick 200", x, 9, 0, GroupFilters.NONE, 0, 200);
        Check.due("the clock", x.told(0, 5), 200);
        Check.due("no record is left", x.told(0, 4), 0);
        Check.due("queries by 1999 ticks", x.tick(1999), 9);
        Check.due("the clock", x.told(0, 5), 1);
        x.query(0, 499, GroupFilters.NONE, 0, false);
        Check.due("1500 ticks of another, then two intervals", x.tick(2000), 2);
        Check.query("the first of them", x, 1, 0, GroupFilters.NONE, 0, 3999 + 1700);
        Check.due("the clock", x.told(0, 5), 100);
    }

    /** "As often as its interval q is over [...] the first one comes behind the first interval": q of 1, 2, 200. */
    private static void clockAtItsEdges() {
        for (int q : new int[] {1, 2, 3, 199, 200}) {
            GroupFilters x = new GroupFilters(1);
            x.settings(0, 1, q, 1);
            for (int turn = 1; turn <= 3; turn++) {
                Check.due("none within, q is " + q, x.tick(q - 1), 0);
                Check.due("till the next", x.told(0, 5), 1);
                Check.due("one behind, q is " + q, x.tick(1), 1);
                Check.query("one behind", x, 0, 0, GroupFilters.NONE, 0, turn * q);
                Check.due("the clock begins anew", x.told(0, 5), q);
            }
            Check.due("two by two", x.tick(2 * q), 2);
            Check.due("one less", x.tick(3 * q - 1), 2);
        }
    }

    /** "NONE without a record", "0 without one", "0 if it includes, or there is no record". */
    private static void lookedAtWithoutARecord() {
        GroupFilters x = new GroupFilters(4);
        x.report(0, 3, GroupFilters.IN, 0);
        x.report(0, 3, GroupFilters.ALLOW, 0);
        x.report(0, 3, GroupFilters.TO_IN, 0);
        x.report(0, 3, GroupFilters.BLOCK, 65535);
        Check.record("includes none", x, 0, 3, GroupFilters.NONE, 0, 0, 0);
        Check.timers("includes none", x, 0, 3, new int[16]);
        x.report(0, 3, GroupFilters.IN, 1);
        x.tick(44);
        Check.record("included one", x, 0, 3, GroupFilters.NONE, 0, 0, 0);
        x.report(0, 3, GroupFilters.EX, 3);
        x.tick(44);
        Check.record("excluded", x, 0, 3, GroupFilters.NONE, 0, 0, 0);
        x.tick(1);
        x.report(0, 3, GroupFilters.EX, 4);
        Check.record("nothing is left of what was", x, 0, 3, 1, 0, 4, 44);
    }

    private static void looksOfARecordThatIncludes() {
        GroupFilters x = new GroupFilters(1);
        x.report(0, 3, GroupFilters.IN, 5);
        Check.record("includes", x, 0, 3, 0, 5, 0, 0);
        Check.timers("includes", x, 0, 3, 44, 0, 44, 0);
        x.report(0, 3, GroupFilters.EX, 6);
        Check.record("excludes", x, 0, 3, 1, 4, 2, 44);
        Check.timers("0 of what is in Y, or in neither", x, 0, 3, 0, 0, 44, 0);
        x.tick(44);
        Check.record("over", x, 0, 3, GroupFilters.NONE, 0, 0, 0);
    }

    /** "Of one that excludes they are in Y": before GT, with GT, behind GT, when they are gone. */
    private static void sourcesThatEndOneByOne() {
        GroupFilters x = new GroupFilters(1);
        x.report(0, 0, GroupFilters.IN, 1);
        x.tick(1);
        x.report(0, 0, GroupFilters.EX, 1);
        x.report(0, 0, GroupFilters.ALLOW, 2);
        x.tick(1);
        x.report(0, 0, GroupFilters.ALLOW, 4);
        Check.record("at first", x, 0, 0, 1, 7, 0, 43);
        Check.timers("at first", x, 0, 0, 42, 43, 44);
        x.tick(42);
        Check.record("before GT", x, 0, 0, 1, 6, 1, 1);
        x.tick(1);
        Check.record("with GT", x, 0, 0, 0, 4, 0, 0);
        Check.timers("with GT", x, 0, 0, 0, 0, 1);
        x.tick(1);
        Check.record("behind GT", x, 0, 0, GroupFilters.NONE, 0, 0, 0);
    }

    /** Full: all sources of all groups of all links; each has its own time. */
    private static void eachLinkAndGroup() {
        GroupFilters x = new GroupFilters(4);
        for (int l = 0; l < 4; l++) {
            for (int g = 0; g < 8; g++) {
                x.report(l, g, g % 2 == 0 ? GroupFilters.IN : GroupFilters.EX, 65535);
            }
            x.tick(1);
        }
        x.tick(40);
        for (int l = 0; l < 4; l++) {
            for (int g = 0; g < 8; g++) {
                boolean in = g % 2 == 0;
                if (l == 0) {
                    Check.record("the first link is over", x, l, g, GroupFilters.NONE, 0, 0, 0);
                } else {
                    Check.record("the others not yet", x, l, g, in ? 0 : 1, in ? 65535 : 0, in ? 0 : 65535, in ? 0 : l);
                    Check.due("timer", x.timer(l, g, 15), in ? l : 0);
                }
            }
        }
    }
}
