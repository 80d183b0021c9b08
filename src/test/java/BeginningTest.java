/** Promises 1 (a new object), 2 (settings) and 17 (clear). */
public final class BeginningTest {
    public static void main(String[] args) {
        howManyLinks();
        eachLinkIsThere();
        allOfANewObject();
        membersOfANewObject();
        settingsMade();
        settingsAtTheirEdges();
        timersThatRunStay();
        lastOfNewSettings();
        clockBeginsAnew();
        waitStays();
        cleared();
        clearedWithNothingDone();
        clearedWhenFull();
        Check.end();
    }

    /** "1 .. 4 (another number counts as the nearest of these)" */
    private static void howManyLinks() {
        int[] made = {Integer.MIN_VALUE, -4, -1, 0, 1, 2, 3, 4, 5, 6, 100, Integer.MAX_VALUE};
        int[] due = {1, 1, 1, 1, 1, 2, 3, 4, 4, 4, 4, 4};
        for (int i = 0; i < made.length; i++) {
            Check.due("links of GroupFilters(" + made[i] + ")", Picture.links(new GroupFilters(made[i])), due[i]);
        }
    }

    /** "So many links": each of them, the last one too, takes part in what is passed on and what is sent. */
    private static void eachLinkIsThere() {
        for (int links = 0; links <= 5; links++) {
            int many = Math.max(1, Math.min(4, links));
            GroupFilters x = new GroupFilters(links);
            for (int l = 0; l < many; l++) {
                x.report(l, 7, GroupFilters.EX, 0);
            }
            for (int l = 0; l < many; l++) {
                Check.due("to all others", x.passed(l, 7, 15), (1 << many) - 1 - (1 << l));
            }
            Check.due("general queries of " + links + " links", x.tick(20), many);
        }
    }

    /** "Each with the settings 2, 20 and 4; no group has a record." */
    private static void allOfANewObject() {
        int[] told = {44, 2, 500, 0, 0, 20};
        for (int l = 0; l < 4; l++) {
            GroupFilters x = new GroupFilters(4);
            for (int what = 0; what < 6; what++) {
                Check.due("new: told(" + l + ", " + what + ")", x.told(l, what), told[what]);
            }
            for (int g = 0; g < 8; g++) {
                Check.record("new", x, l, g, GroupFilters.NONE, 0, 0, 0);
                Check.timers("new", x, l, g, new int[16]);
                Check.due("new: passed", x.passed(l, g, 15), 0);
                Check.due("new: wanted", x.wanted(l, g, 15), false);
            }
            Check.due("new: sent", x.sent(), 0);
        }
    }

    /** "At first it includes none." */
    private static void membersOfANewObject() {
        GroupFilters x = new GroupFilters(4);
        for (int l = 0; l < 4; l++) {
            for (int m = 0; m < 6; m++) {
                Check.due("a new member has nothing to answer", x.answer(l, m), 0);
                Check.due("to include none is nothing other", x.member(l, m, 7, false, 0), 0);
            }
            Check.due("no record by that", x.told(l, 4), 0);
        }
    }

    private static void settingsMade() {
        GroupFilters x = new GroupFilters(2);
        Check.due("settings(1, 3, 10, 5)", x.settings(1, 3, 10, 5), 35);
        Check.due("GRACE", x.told(1, 0), 35);
        Check.due("LAST", x.told(1, 1), 3);
        Check.due("till the next query", x.told(1, 5), 10);
        Check.due("GRACE of the other link", x.told(0, 0), 44);
        Check.due("till the next query of the other link", x.told(0, 5), 20);
        x.report(1, 0, GroupFilters.EX, 1);
        Check.due("GT by the settings", x.groupTimer(1, 0), 35);
        x.query(1, 10, GroupFilters.NONE, 0, false);
        Check.due("till it asks again, d / 2 downward", x.told(1, 3), 32);
    }

    /** "How often r, 1 .. 7, an interval q, 1 .. 200, and a delay d, 1 .. q"; "GRACE is r q + d" */
    private static void settingsAtTheirEdges() {
        int[][] settings = {{1, 1, 1}, {7, 1, 1}, {1, 2, 1}, {1, 2, 2}, {1, 3, 3}, {1, 200, 1}, {1, 200, 200},
            {7, 200, 1}, {7, 200, 199}, {7, 200, 200}, {2, 20, 20}, {2, 20, 1}};
        int[] graces = {2, 8, 3, 4, 6, 201, 400, 1401, 1599, 1600, 60, 41};
        int[] waits = {1, 7, 2, 3, 4, 200, 300, 1400, 1499, 1500, 50, 40};
        for (int i = 0; i < settings.length; i++) {
            int r = settings[i][0];
            int q = settings[i][1];
            int d = settings[i][2];
            String when = "settings(0, " + r + ", " + q + ", " + d + ")";
            GroupFilters x = new GroupFilters(1);
            Check.due(when, x.settings(0, r, q, d), graces[i]);
            Check.due(when + ": GRACE", x.told(0, 0), graces[i]);
            Check.due(when + ": LAST", x.told(0, 1), r);
            Check.asker(when, x, 0, 500, 0, q);
            x.report(0, 0, GroupFilters.EX, 1);
            x.report(0, 0, GroupFilters.IN, 2);
            Check.record(when, x, 0, 0, 1, 2, 1, graces[i]);
            Check.due(when + ": a timer", x.timer(0, 0, 1), graces[i]);
            Check.due(when + ": asks the sources, then the group", x.report(0, 0, GroupFilters.TO_IN, 0), 2);
            Check.due(when + ": lowered timer", x.timer(0, 0, 1), r);
            Check.due(when + ": lowered GT", x.groupTimer(0, 0), r);
            x.query(0, 499, GroupFilters.NONE, 0, false);
            Check.asker(when, x, 0, 499, waits[i], 0);
            Check.due(when + ": no query till then", x.tick(waits[i]), 0);
            Check.asker(when, x, 0, 500, 0, q);
            Check.due(when + ": nor within the interval", x.tick(q - 1), 0);
            Check.due(when + ": then one", x.tick(1), 1);
        }
    }

    /** "(Timers that run stay.)" */
    private static void timersThatRunStay() {
        int[][] settings = {{1, 1, 1}, {7, 200, 200}};
        for (int[] s : settings) {
            GroupFilters x = new GroupFilters(2);
            x.report(0, 0, GroupFilters.EX, 0);
            x.report(0, 0, GroupFilters.ALLOW, 1);
            x.report(0, 1, GroupFilters.IN, 2);
            x.tick(3);
            x.settings(0, s[0], s[1], s[2]);
            Check.due("GT that runs", x.groupTimer(0, 0), 41);
            Check.due("a timer of one that excludes", x.timer(0, 0, 0), 41);
            Check.due("a timer of one that includes", x.timer(0, 1, 1), 41);
            Check.due("the clock of the other link", x.told(1, 5), 17);
            x.tick(40);
            Check.record("to their end", x, 0, 0, 1, 1, 0, 1);
            x.tick(1);
            Check.due("to their end", x.told(0, 4), 0);
        }
    }

    /** What is asked after new settings is lowered to the new LAST, and never raised to it. */
    private static void lastOfNewSettings() {
        GroupFilters x = new GroupFilters(1);
        x.report(0, 0, GroupFilters.IN, 1);
        x.tick(40);
        x.settings(0, 7, 20, 4);
        x.report(0, 0, GroupFilters.BLOCK, 1);
        Check.due("4 is not above 7", x.timer(0, 0, 0), 4);
        x.settings(0, 3, 20, 4);
        x.report(0, 0, GroupFilters.BLOCK, 1);
        Check.due("4 is above 3", x.timer(0, 0, 0), 3);
    }

    /** "Its clock begins anew [...] when settings are made": the same ones, too, and one tick before its end. */
    private static void clockBeginsAnew() {
        GroupFilters x = new GroupFilters(2);
        x.tick(19);
        Check.due("one tick before the query", x.told(0, 5), 1);
        x.settings(0, 2, 20, 4);
        Check.due("anew", x.told(0, 5), 20);
        Check.due("the other link's query alone", x.tick(1), 1);
        Check.query("the other link's", x, 0, 1, GroupFilters.NONE, 0, 20);
        Check.due("not one tick before the interval is over", x.tick(18), 0);
        Check.due("but then", x.tick(1), 1);
        Check.query("of link 0", x, 0, 0, GroupFilters.NONE, 0, 39);
        x.settings(0, 1, 1, 1);
        Check.due("a shorter interval", x.told(0, 5), 1);
        x.settings(0, 1, 200, 1);
        Check.due("a longer one", x.told(0, 5), 200);
    }

    /** Settings made while another router asks: the time till this one asks again is no interval's. */
    private static void waitStays() {
        GroupFilters x = new GroupFilters(1);
        x.query(0, 7, GroupFilters.NONE, 0, false);
        x.tick(1);
        x.settings(0, 1, 5, 1);
        Check.asker("settings meanwhile", x, 0, 7, 41, 0);
        Check.due("no query meanwhile", x.tick(41), 0);
        Check.asker("asks again, by the new settings", x, 0, 500, 0, 5);
        x.query(0, 7, GroupFilters.NONE, 0, false);
        Check.asker("the next time", x, 0, 7, 5, 0);
    }

    private static GroupFilters used() {
        GroupFilters x = new GroupFilters(3);
        x.settings(0, 3, 7, 2);
        x.member(0, 0, 1, true, 6);
        x.member(0, 5, 7, false, 32768);
        x.report(1, 0, GroupFilters.TO_EX, 9);
        x.tick(33);
        x.query(2, 3, GroupFilters.NONE, 0, false);
        x.member(1, 2, 0, true, 1);
        x.member(1, 3, 7, false, 65535);
        x.report(2, 4, GroupFilters.IN, 65535);
        x.report(2, 4, GroupFilters.EX, 43690);
        return x;
    }

    private static GroupFilters usedAndCleared() {
        GroupFilters x = used();
        x.clear();
        return x;
    }

    /** "All is as at first." */
    private static void cleared() {
        Check.due("clear()", Picture.of(BeginningTest::usedAndCleared), Picture.of(() -> new GroupFilters(3)));
        Check.due("clear(), later", Picture.later(BeginningTest::usedAndCleared),
            Picture.later(() -> new GroupFilters(3)));
        GroupFilters x = usedAndCleared();
        Check.noIndex("the queries are gone: asked(0, 0)", () -> x.asked(0, 0));
        for (int l = 0; l < 3; l++) {
            for (int m = 0; m < 6; m++) {
                Check.due("member " + m + " of link " + l + " wants nothing", x.answer(l, m), 0);
            }
        }
        Check.due("the clocks begin anew", x.tick(19), 0);
        Check.due("of all links", x.tick(1), 3);
        Check.query("ticks are counted anew", x, 0, 2, GroupFilters.NONE, 0, 20);
        x.query(1, 499, GroupFilters.NONE, 0, false);
        Check.asker("an earlier address is forgotten", x, 1, 499, 42, 0);
    }

    private static void clearedWithNothingDone() {
        for (int links = 1; links <= 4; links++) {
            int many = links;
            String due = Picture.of(() -> new GroupFilters(many));
            Check.due("clear() of a new one, twice", Picture.of(() -> {
                GroupFilters x = new GroupFilters(many);
                x.clear();
                x.clear();
                return x;
            }), due);
        }
    }

    private static GroupFilters full() {
        GroupFilters x = new GroupFilters(4);
        for (int l = 0; l < 4; l++) {
            x.settings(l, 7, 1, 1);
            for (int g = 0; g < 8; g++) {
                x.member(l, g % 6, g, g % 2 == 0, 65535);
            }
        }
        x.tick(2000);
        for (int m = 0; m < 24; m++) {
            x.answer(m / 6, m % 6);
        }
        return x;
    }

    private static void clearedWhenFull() {
        Check.due("queries of the full one", full().sent(), 8000);
        Check.due("records of the full one", full().told(3, 4), 8);
        Check.due("clear() of a full one", Picture.of(() -> {
            GroupFilters x = full();
            x.clear();
            return x;
        }), Picture.of(() -> new GroupFilters(4)));
    }
}
