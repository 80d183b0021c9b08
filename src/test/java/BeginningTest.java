/** Promises 1 (a new object), 2 (settings) and 17 (clear). */
public final class BeginningTest {
    public static void main(String[] args) {
        howManyLinks();
        allOfANewObject();
        settingsMade();
        settingsAtTheirEdges();
        settingsKeepWhatRuns();
        settingsRefused();
        cleared();
        Check.end();
    }

    private static void howManyLinks() {
        int[] made = {Integer.MIN_VALUE, -1, 0, 1, 2, 3, 4, 5, 100, Integer.MAX_VALUE};
        int[] due = {1, 1, 1, 1, 2, 3, 4, 4, 4, 4};
        for (int i = 0; i < made.length; i++) {
            Check.due("links of GroupFilters(" + made[i] + ")", Picture.links(new GroupFilters(made[i])), due[i]);
        }
    }

    private static void allOfANewObject() {
        GroupFilters x = new GroupFilters(4);
        int[] told = {44, 2, 500, 0, 0, 20};
        for (int l = 0; l < 4; l++) {
            for (int what = 0; what < 6; what++) {
                Check.due("new: told(" + l + ", " + what + ")", x.told(l, what), told[what]);
            }
            for (int g = 0; g < 8; g++) {
                Check.record("new", x, l, g, new int[] {GroupFilters.NONE, 0, 0, 0});
                Check.timers("new", x, l, g, new int[16]);
                Check.due("new: passed", x.passed(l, g, 15), 0);
                Check.due("new: wanted", x.wanted(l, g, 15), false);
            }
        }
        Check.due("new: sent", x.sent(), 0);
    }

    private static void settingsMade() {
        GroupFilters x = new GroupFilters(2);
        Check.due("settings(1, 3, 10, 5)", x.settings(1, 3, 10, 5), 35);
        Check.due("GRACE", x.told(1, 0), 35);
        Check.due("LAST", x.told(1, 1), 3);
        Check.due("till the next query", x.told(1, 5), 10);
        Check.due("GRACE of the other link", x.told(0, 0), 44);
        Check.due("till the next query of the other link", x.told(0, 5), 20);
        x.report(1, 0, GroupFilters.EX, 1);
        Check.due("GT by the settings", x.groupTimer(1, 0), 35);
        x.query(1, 10, GroupFilters.NONE, 0, false);
        Check.due("till it asks again, d / 2 downward", x.told(1, 3), 32);
    }

    private static void settingsAtTheirEdges() {
        GroupFilters x = new GroupFilters(1);
        Check.due("settings(0, 1, 1, 1)", x.settings(0, 1, 1, 1), 2);
        Check.due("settings(0, 7, 200, 200)", x.settings(0, 7, 200, 200), 1600);
        Check.due("settings(0, 7, 1, 1)", x.settings(0, 7, 1, 1), 8);
        Check.due("settings(0, 1, 200, 1)", x.settings(0, 1, 200, 1), 201);
    }

    private static void settingsKeepWhatRuns() {
        GroupFilters x = new GroupFilters(1);
        x.report(0, 0, GroupFilters.EX, 0);
        x.report(0, 0, GroupFilters.ALLOW, 1);
        x.tick(3);
        x.query(0, 7, GroupFilters.NONE, 0, false);
        x.tick(1);
        x.settings(0, 1, 5, 1);
        Check.due("GT that runs", x.groupTimer(0, 0), 40);
        Check.due("a timer that runs", x.timer(0, 0, 0), 40);
        Check.due("till it asks again", x.told(0, 3), 41);
        Check.due("till its query", x.told(0, 5), 0);
        x.tick(41);
        Check.due("asks again", x.told(0, 3), 0);
        Check.due("its clock is of the new settings", x.told(0, 5), 5);
        x.tick(4);
        x.settings(0, 1, 5, 1);
        Check.due("the same settings begin the clock anew", x.told(0, 5), 5);
        Check.due("no query by then", x.tick(4), 0);
        Check.due("but then", x.tick(1), 1);
    }

    private static void settingsRefused() {
        GroupFilters x = new GroupFilters(2);
        x.tick(5);
        x.report(1, 2, GroupFilters.EX, 5);
        int[] noLink = {-1, 2, 4, Integer.MIN_VALUE, Integer.MAX_VALUE};
        for (int l : noLink) {
            Check.noIndex("settings(" + l + ", 2, 20, 4)", x, () -> x.settings(l, 2, 20, 4));
            Check.noIndex("settings(" + l + ", 0, 0, 0)", x, () -> x.settings(l, 0, 0, 0));
        }
        int[][] wrong = {{0, 20, 4}, {8, 20, 4}, {-1, 20, 4}, {2, 0, 1}, {2, 201, 4}, {2, -5, 1}, {2, 20, 0},
            {2, 20, 21}, {2, 20, -1}, {2, Integer.MAX_VALUE, 1}, {2, 20, Integer.MAX_VALUE}, {1, 1, 2}};
        for (int[] w : wrong) {
            Check.noArgument("settings(0, " + w[0] + ", " + w[1] + ", " + w[2] + ")", x,
                () -> x.settings(0, w[0], w[1], w[2]));
        }
    }

    private static void cleared() {
        GroupFilters x = new GroupFilters(3);
        x.settings(0, 3, 7, 2);
        x.member(0, 0, 1, true, 6);
        x.member(0, 5, 7, false, 32768);
        x.report(1, 0, GroupFilters.TO_EX, 9);
        x.tick(33);
        x.query(2, 3, GroupFilters.NONE, 0, false);
        x.member(1, 2, 0, true, 1);
        x.member(1, 3, 7, false, 65535);
        x.report(2, 4, GroupFilters.IN, 65535);
        x.report(2, 4, GroupFilters.EX, 43690);
        x.clear();
        GroupFilters other = new GroupFilters(3);
        Check.due("clear()", Picture.of(x), Picture.of(other));
        for (int l = 0; l < 3; l++) {
            for (int m = 0; m < 6; m++) {
                Check.due("member " + m + " of link " + l + " wants nothing", x.answer(l, m), 0);
            }
        }
        Check.due("ticks are counted anew", x.tick(20), 3);
        Check.query("after clear", x, 0, 2, GroupFilters.NONE, 0, 20);
        other.tick(20);
        Check.due("after clear and ticks", Picture.of(x), Picture.of(other));
    }
}
