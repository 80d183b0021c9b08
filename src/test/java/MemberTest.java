/** Promises 6 (member), 7 (answer), 8 (wanted) and 9 (passed). */
public final class MemberTest {
    public static void main(String[] args) {
        bothInclude();
        bothExclude();
        toOther();
        nothingOther();
        whileAnotherAsks();
        answers();
        wants();
        passes();
        refused();
        Check.end();
    }

    private static void bothInclude() {
        GroupFilters x = new GroupFilters(1);
        Check.due("includes some", x.member(0, 0, 3, false, 3), 0);
        Check.record("ALLOW", x, 0, 3, new int[] {0, 3, 0, 0});
        x.tick(4);
        Check.due("others", x.member(0, 0, 3, false, 6), 1);
        Check.record("ALLOW, then BLOCK", x, 0, 3, new int[] {0, 7, 0, 0});
        Check.timers("what stays is not reported", x, 0, 3, 2, 40, 44);
        Check.query("BLOCK asks", x, 0, 0, 3, 1, 4);
        Check.due("more", x.member(0, 0, 3, false, 14), 0);
        Check.due("none", x.member(0, 0, 3, false, 0), 1);
        Check.query("of all that it had", x, 0, 0, 3, 14, 4);
        x.tick(2);
        Check.record("over", x, 0, 3, new int[] {-1, 0, 0, 0});
    }

    private static void bothExclude() {
        GroupFilters x = new GroupFilters(1);
        Check.due("TO_EX", x.member(0, 5, 0, true, 3), 0);
        Check.record("TO_EX", x, 0, 0, new int[] {1, 0, 3, 44});
        x.tick(4);
        Check.due("excludes others", x.member(0, 5, 0, true, 6), 1);
        Check.record("ALLOW, then BLOCK", x, 0, 0, new int[] {1, 5, 2, 40});
        Check.timers("ALLOW, then BLOCK", x, 0, 0, 44, 0, 2);
        Check.query("BLOCK asks", x, 0, 0, 0, 4, 4);
        Check.due("excludes none", x.member(0, 5, 0, true, 0), 0);
        Check.record("ALLOW alone", x, 0, 0, new int[] {1, 7, 0, 40});
        Check.timers("ALLOW alone", x, 0, 0, 44, 44, 44);
    }

    private static void toOther() {
        GroupFilters x = new GroupFilters(1);
        x.member(0, 1, 0, false, 3);
        Check.due("TO_EX", x.member(0, 1, 0, true, 6), 1);
        Check.record("TO_EX", x, 0, 0, new int[] {1, 2, 4, 44});
        Check.query("TO_EX", x, 0, 0, 0, 2, 0);
        Check.due("TO_IN", x.member(0, 1, 0, false, 6), 1);
        Check.record("TO_IN", x, 0, 0, new int[] {1, 6, 0, 2});
        Check.query("TO_IN, all sources are told", x, 0, 0, 0, 0, 0);
        x.member(0, 1, 0, true, 6);
        Check.due("TO_IN of none", x.member(0, 1, 0, false, 0), 2);
        Check.query("sources", x, 1, 0, 0, 6, 0);
        Check.query("group", x, 0, 0, 0, 0, 0);
        Check.due("the same set, but excluded", new GroupFilters(1).member(0, 0, 0, true, 0), 0);
    }

    private static void nothingOther() {
        GroupFilters x = new GroupFilters(1);
        Check.due("includes none as at first", x.member(0, 0, 0, false, 0), 0);
        Check.record("no record", x, 0, 0, new int[] {-1, 0, 0, 0});
        x.member(0, 0, 0, false, 5);
        x.member(0, 1, 1, true, 5);
        x.tick(3);
        String before = Picture.of(x);
        Check.due("the same again", x.member(0, 0, 0, false, 5), 0);
        Check.due("the same again", x.member(0, 1, 1, true, 5), 0);
        Check.due("no report", Picture.of(x), before);
        x.member(0, 2, 1, true, 5);
        Check.due("another member's is a report", x.groupTimer(0, 1), 44);
    }

    private static void whileAnotherAsks() {
        GroupFilters x = new GroupFilters(1);
        x.member(0, 0, 0, false, 3);
        x.query(0, 5, GroupFilters.NONE, 0, false);
        Check.due("no queries", x.member(0, 0, 0, true, 1), 0);
        Check.timers("nothing lowered", x, 0, 0, 44, 0);
        Check.due("no queries", x.member(0, 0, 0, false, 0), 0);
        Check.due("nothing lowered", x.groupTimer(0, 0), 44);
    }

    private static void answers() {
        GroupFilters x = new GroupFilters(2);
        x.member(1, 4, 0, false, 1);
        x.member(1, 4, 3, true, 0);
        x.member(1, 4, 7, true, 2);
        x.member(1, 4, 5, false, 9);
        x.member(1, 4, 5, false, 0);
        x.member(1, 3, 6, false, 8);
        int sent = x.sent();
        x.tick(10);
        x.report(1, 0, GroupFilters.BLOCK, 1);
        Check.due("reports", x.answer(1, 4), 3);
        Check.timers("IN", x, 1, 0, 44);
        Check.record("EX of none", x, 1, 3, new int[] {1, 0, 0, 44});
        Check.record("EX", x, 1, 7, new int[] {1, 0, 2, 44});
        Check.due("not what it left", x.sources(1, 5, true), 0);
        Check.due("not another member's", x.timer(1, 6, 3), 34);
        Check.due("it sends no query", x.sent(), sent + 1);
        Check.due("a member that wants nothing", x.answer(1, 5), 0);
        Check.due("a member of another link", x.answer(0, 4), 0);
        x.tick(2000);
        Check.due("all is over", x.told(1, 4), 0);
        Check.due("but it is wanted still", x.answer(1, 4), 3);
        Check.due("records again", x.told(1, 4), 3);
        x = new GroupFilters(1);
        for (int g = 0; g < 8; g++) {
            x.member(0, 0, g, g % 2 == 0, 32768);
        }
        Check.due("of all groups", x.answer(0, 0), 8);
    }

    private static void wants() {
        GroupFilters x = new GroupFilters(2);
        x.member(0, 0, 0, false, 32769);
        Check.due("included", x.wanted(0, 0, 0), true);
        Check.due("included", x.wanted(0, 0, 15), true);
        Check.due("not included", x.wanted(0, 0, 1), false);
        Check.due("another group", x.wanted(0, 1, 0), false);
        Check.due("another link", x.wanted(1, 0, 0), false);
        x.member(0, 5, 0, true, 3);
        Check.due("excluded by one, included by another", x.wanted(0, 0, 0), true);
        Check.due("excluded", x.wanted(0, 0, 1), false);
        Check.due("excluded by none", x.wanted(0, 0, 2), true);
        x.member(0, 4, 0, true, 1);
        Check.due("not excluded by all", x.wanted(0, 0, 1), true);
        x.tick(2000);
        Check.due("a record that is over changes no wish", x.wanted(0, 0, 2), true);
        x.report(1, 2, GroupFilters.EX, 0);
        Check.due("a report that no member sent is no wish", x.wanted(1, 2, 0), false);
    }

    private static void passes() {
        GroupFilters x = new GroupFilters(4);
        x.report(0, 0, GroupFilters.IN, 1);
        x.report(1, 0, GroupFilters.EX, 1);
        x.report(2, 0, GroupFilters.EX, 2);
        x.report(2, 0, GroupFilters.ALLOW, 4);
        x.report(3, 1, GroupFilters.EX, 0);
        Check.due("from 3: included by 0, in Y of 1, in neither of 2", x.passed(3, 0, 0), 5);
        Check.due("from 3: in neither of 1, in Y of 2", x.passed(3, 0, 1), 2);
        Check.due("from 3: in neither of 1, in X of 2", x.passed(3, 0, 2), 6);
        Check.due("from 3: in neither of both", x.passed(3, 0, 15), 6);
        Check.due("not back to 0", x.passed(0, 0, 0), 4);
        Check.due("not back to 2", x.passed(2, 0, 0), 1);
        Check.due("another group", x.passed(0, 1, 15), 8);
        Check.due("another group, not back", x.passed(3, 1, 15), 0);
        x.tick(44);
        Check.due("nothing is left", x.passed(3, 0, 0), 0);
        Check.due("one link alone", new GroupFilters(1).passed(0, 0, 0), 0);
        GroupFilters y = new GroupFilters(2);
        y.member(1, 0, 0, false, 8);
        y.tick(44);
        Check.due("what a member wants without a record is not passed", y.passed(0, 0, 3), 0);
    }

    private static void refused() {
        GroupFilters x = new GroupFilters(2);
        x.member(0, 1, 2, true, 7);
        int[] noLink = {-1, 2, Integer.MAX_VALUE, Integer.MIN_VALUE};
        int[] noMember = {-1, 6, Integer.MAX_VALUE, Integer.MIN_VALUE};
        int[] noGroup = {-1, 8, Integer.MAX_VALUE, Integer.MIN_VALUE};
        int[] noSource = {-1, 16, Integer.MAX_VALUE, Integer.MIN_VALUE};
        for (int i = 0; i < 4; i++) {
            int link = noLink[i];
            int member = noMember[i];
            int group = noGroup[i];
            int source = noSource[i];
            Check.noIndex("member, link " + link, x, () -> x.member(link, 1, 2, false, 1));
            Check.noIndex("member, link and set", x, () -> x.member(link, 1, 2, false, -1));
            Check.noIndex("member, member " + member, x, () -> x.member(0, member, 2, false, 1));
            Check.noIndex("member, member and set", x, () -> x.member(0, member, 2, false, 65536));
            Check.noIndex("member, group " + group, x, () -> x.member(0, 1, group, false, 1));
            Check.noIndex("member, group and set", x, () -> x.member(0, 1, group, false, -1));
            Check.noIndex("answer, link " + link, x, () -> x.answer(link, 1));
            Check.noIndex("answer, member " + member, x, () -> x.answer(0, member));
            Check.noIndex("wanted, link " + link, x, () -> x.wanted(link, 2, 0));
            Check.noIndex("wanted, group " + group, x, () -> x.wanted(0, group, 0));
            Check.noIndex("wanted, source " + source, x, () -> x.wanted(0, 2, source));
            Check.noIndex("passed, link " + link, x, () -> x.passed(link, 2, 0));
            Check.noIndex("passed, group " + group, x, () -> x.passed(0, group, 0));
            Check.noIndex("passed, source " + source, x, () -> x.passed(0, 2, source));
        }
        for (int set : new int[] {-1, 65536, Integer.MAX_VALUE, Integer.MIN_VALUE}) {
            Check.noArgument("member, set " + set, x, () -> x.member(0, 1, 2, true, set));
        }
        Check.due("its wish is as it was", x.member(0, 1, 2, true, 7) + x.answer(0, 1), 1);
    }
}
