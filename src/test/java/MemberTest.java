/** Promises 6 (member), 7 (answer), 8 (wanted) and 9 (passed). */
public final class MemberTest {
    public static void main(String[] args) {
        bothInclude();
        bothExclude();
        toOther();
        nothingOther();
        whileAnotherAsks();
        answers();
        wants();
        passes();
        eachReportOnlyIfNotEmpty();
        allAndNone();
        sameSetOtherMode();
        membersAreApart();
        answersOfNone();
        answersOfAllGroups();
        wantedOfAllAndNone();
        passedToAllAndNone();
        passedInEachState();
        Check.end();
    }

    private static void bothInclude() {
        GroupFilters x = new GroupFilters(1);
        Check.due("includes some", x.member(0, 0, 3, false, 3), 0);
        Check.record("ALLOW", x, 0, 3, 0, 3, 0, 0);
        x.tick(4);
        Check.due("others", x.member(0, 0, 3, false, 6), 1);
        Check.record("ALLOW, then BLOCK", x, 0, 3, 0, 7, 0, 0);
        Check.timers("what stays is not reported", x, 0, 3, 2, 40, 44);
        Check.query("BLOCK asks", x, 0, 0, 3, 1, 4);
        Check.due("more", x.member(0, 0, 3, false, 14), 0);
        Check.due("none", x.member(0, 0, 3, false, 0), 1);
        Check.query("of all that it had", x, 0, 0, 3, 14, 4);
        x.tick(2);
        Check.record("over", x, 0, 3, -1, 0, 0, 0);
    }

    private static void bothExclude() {
        GroupFilters x = new GroupFilters(1);
        Check.due("TO_EX", x.member(0, 5, 0, true, 3), 0);
        Check.record("TO_EX", x, 0, 0, 1, 0, 3, 44);
        x.tick(4);
        Check.due("excludes others", x.member(0, 5, 0, true, 6), 1);
        Check.record("ALLOW, then BLOCK", x, 0, 0, 1, 5, 2, 40);
        Check.timers("ALLOW, then BLOCK", x, 0, 0, 44, 0, 2);
        Check.query("BLOCK asks", x, 0, 0, 0, 4, 4);
        Check.due("excludes none", x.member(0, 5, 0, true, 0), 0);
        Check.record("ALLOW alone", x, 0, 0, 1, 7, 0, 40);
        Check.timers("ALLOW alone", x, 0, 0, 44, 44, 44);
    }

    private static void toOther() {
        GroupFilters x = new GroupFilters(1);
        x.member(0, 1, 0, false, 3);
        Check.due("TO_EX", x.member(0, 1, 0, true, 6), 1);
        Check.record("TO_EX", x, 0, 0, 1, 2, 4, 44);
        Check.query("TO_EX", x, 0, 0, 0, 2, 0);
        Check.due("TO_IN", x.member(0, 1, 0, false, 6), 1);
        Check.record("TO_IN", x, 0, 0, 1, 6, 0, 2);
        Check.query("TO_IN, all sources are told", x, 0, 0, 0, 0, 0);
        x.member(0, 1, 0, true, 6);
        Check.due("TO_IN of none", x.member(0, 1, 0, false, 0), 2);
        Check.query("sources", x, 1, 0, 0, 6, 0);
        Check.query("group", x, 0, 0, 0, 0, 0);
        Check.due("the same set, but excluded", new GroupFilters(1).member(0, 0, 0, true, 0), 0);
    }

    private static GroupFilters twoWishes() {
        GroupFilters x = new GroupFilters(1);
        x.member(0, 0, 0, false, 5);
        x.member(0, 1, 1, true, 5);
        x.tick(3);
        return x;
    }

    /** "When that becomes other, it reports": the same again is no report, not even one that begins timers anew. */
    private static void nothingOther() {
        GroupFilters x = new GroupFilters(1);
        Check.due("includes none as at first", x.member(0, 0, 0, false, 0), 0);
        Check.record("no record", x, 0, 0, -1, 0, 0, 0);
        Check.due("no report", Picture.of(() -> {
            GroupFilters y = twoWishes();
            Check.due("the same again", y.member(0, 0, 0, false, 5), 0);
            Check.due("the same again", y.member(0, 1, 1, true, 5), 0);
            return y;
        }), Picture.of(MemberTest::twoWishes));
        x = twoWishes();
        x.member(0, 2, 1, true, 5);
        Check.due("another member's is a report", x.groupTimer(0, 1), 44);
        Check.due("what has been over is not asked for again", x.tick(44), 2);
        x.member(0, 0, 0, false, 5);
        Check.record("the same again when its record is over", x, 0, 0, -1, 0, 0, 0);
    }

    private static void whileAnotherAsks() {
        GroupFilters x = new GroupFilters(1);
        x.member(0, 0, 0, false, 3);
        x.query(0, 5, GroupFilters.NONE, 0, false);
        Check.due("no queries", x.member(0, 0, 0, true, 1), 0);
        Check.timers("nothing lowered", x, 0, 0, 44, 0);
        Check.due("no queries", x.member(0, 0, 0, false, 0), 0);
        Check.due("nothing lowered", x.groupTimer(0, 0), 44);
    }

    private static void answers() {
        GroupFilters x = new GroupFilters(2);
        x.member(1, 4, 0, false, 1);
        x.member(1, 4, 3, true, 0);
        x.member(1, 4, 7, true, 2);
        x.member(1, 4, 5, false, 9);
        x.member(1, 4, 5, false, 0);
        x.member(1, 3, 6, false, 8);
        int sent = x.sent();
        x.tick(10);
        x.report(1, 0, GroupFilters.BLOCK, 1);
        Check.due("reports", x.answer(1, 4), 3);
        Check.timers("IN", x, 1, 0, 44);
        Check.record("EX of none", x, 1, 3, 1, 0, 0, 44);
        Check.record("EX", x, 1, 7, 1, 0, 2, 44);
        Check.due("not what it left", x.sources(1, 5, true), 0);
        Check.due("not another member's", x.timer(1, 6, 3), 34);
        Check.due("it sends no query", x.sent(), sent + 1);
        Check.due("a member that wants nothing", x.answer(1, 5), 0);
        Check.due("a member of another link", x.answer(0, 4), 0);
        x.tick(2000);
        Check.due("all is over", x.told(1, 4), 0);
        Check.due("but it is wanted still", x.answer(1, 4), 3);
        Check.due("records again", x.told(1, 4), 3);
        x = new GroupFilters(1);
        for (int g = 0; g < 8; g++) {
            x.member(0, 0, g, g % 2 == 0, 32768);
        }
        Check.due("of all groups", x.answer(0, 0), 8);
    }

    private static void wants() {
        GroupFilters x = new GroupFilters(2);
        x.member(0, 0, 0, false, 32769);
        Check.due("included", x.wanted(0, 0, 0), true);
        Check.due("included", x.wanted(0, 0, 15), true);
        Check.due("not included", x.wanted(0, 0, 1), false);
        Check.due("another group", x.wanted(0, 1, 0), false);
        Check.due("another link", x.wanted(1, 0, 0), false);
        x.member(0, 5, 0, true, 3);
        Check.due("excluded by one, included by another", x.wanted(0, 0, 0), true);
        Check.due("excluded", x.wanted(0, 0, 1), false);
        Check.due("excluded by none", x.wanted(0, 0, 2), true);
        x.member(0, 4, 0, true, 1);
        Check.due("not excluded by all", x.wanted(0, 0, 1), true);
        x.tick(2000);
        Check.due("a record that is over changes no wish", x.wanted(0, 0, 2), true);
        x.report(1, 2, GroupFilters.EX, 0);
        Check.due("a report that no member sent is no wish", x.wanted(1, 2, 0), false);
    }

    private static void passes() {
        GroupFilters x = new GroupFilters(4);
        x.report(0, 0, GroupFilters.IN, 1);
        x.report(1, 0, GroupFilters.EX, 1);
        x.report(2, 0, GroupFilters.EX, 2);
        x.report(2, 0, GroupFilters.ALLOW, 4);
        x.report(3, 1, GroupFilters.EX, 0);
        Check.due("from 3: included by 0, in Y of 1, in neither of 2", x.passed(3, 0, 0), 5);
        Check.due("from 3: in neither of 1, in Y of 2", x.passed(3, 0, 1), 2);
        Check.due("from 3: in neither of 1, in X of 2", x.passed(3, 0, 2), 6);
        Check.due("from 3: in neither of both", x.passed(3, 0, 15), 6);
        Check.due("not back to 0", x.passed(0, 0, 0), 4);
        Check.due("not back to 2", x.passed(2, 0, 0), 1);
        Check.due("another group", x.passed(0, 1, 15), 8);
        Check.due("another group, not back", x.passed(3, 1, 15), 0);
        x.tick(44);
        Check.due("nothing is left", x.passed(3, 0, 0), 0);
        Check.due("one link alone", new GroupFilters(1).passed(0, 0, 0), 0);
        GroupFilters y = new GroupFilters(2);
        y.member(1, 0, 0, false, 8);
        y.tick(44);
        Check.due("what a member wants without a record is not passed", y.passed(0, 0, 3), 0);
    }

    /** Member 1 goes from A to B, both including or both excluding; answers the queries sent. */
    private static int change(GroupFilters x, boolean excludes, int from, int to) {
        x.member(0, 1, 0, excludes, from);
        x.tick(4);
        return x.member(0, 1, 0, excludes, to);
    }

    /** "ALLOW B - A, then BLOCK A - B; both exclude: ALLOW A - B, then BLOCK B - A (each only if it is not empty)" */
    private static void eachReportOnlyIfNotEmpty() {
        GroupFilters x = new GroupFilters(1);
        Check.due("includes more: ALLOW alone", change(x, false, 1, 3), 0);
        Check.timers("ALLOW of what is new alone", x, 0, 0, 40, 44, 0);
        x = new GroupFilters(1);
        Check.due("includes less: BLOCK alone", change(x, false, 3, 1), 1);
        Check.timers("BLOCK of what is left alone", x, 0, 0, 40, 2, 0);
        x = new GroupFilters(1);
        Check.due("includes others: both", change(x, false, 1, 2), 1);
        Check.timers("both", x, 0, 0, 2, 44, 0);
        x = new GroupFilters(1);
        Check.due("excludes less: ALLOW alone", change(x, true, 3, 1), 0);
        Check.record("ALLOW alone", x, 0, 0, 1, 2, 1, 40);
        Check.timers("ALLOW alone", x, 0, 0, 0, 44, 0);
        x = new GroupFilters(1);
        Check.due("excludes more: BLOCK alone", change(x, true, 1, 3), 1);
        Check.record("BLOCK alone", x, 0, 0, 1, 2, 1, 40);
        Check.timers("BLOCK alone", x, 0, 0, 0, 2, 0);
        x = new GroupFilters(1);
        Check.due("excludes others: both", change(x, true, 1, 2), 1);
        Check.record("both", x, 0, 0, 1, 3, 0, 40);
        Check.timers("both", x, 0, 0, 44, 2, 0);
    }

    /** Sets of none and of all, 0 and 65535, from one to the other, by the last member, in the last group. */
    private static void allAndNone() {
        GroupFilters x = new GroupFilters(4);
        Check.due("includes all", x.member(3, 5, 7, false, 65535), 0);
        Check.record("includes all", x, 3, 7, 0, 65535, 0, 0);
        x.tick(1);
        Check.due("includes none", x.member(3, 5, 7, false, 0), 1);
        Check.query("includes none", x, 0, 3, 7, 65535, 1);
        Check.due("lowered", x.timer(3, 7, 15), 2);
        x.tick(2);
        Check.due("excludes all", x.member(3, 5, 7, true, 65535), 0);
        Check.record("excludes all", x, 3, 7, 1, 0, 65535, 44);
        Check.due("excludes none", x.member(3, 5, 7, true, 0), 0);
        Check.record("excludes none", x, 3, 7, 1, 65535, 0, 44);
        Check.due("excludes all again", x.member(3, 5, 7, true, 65535), 1);
        Check.record("excludes all again", x, 3, 7, 1, 65535, 0, 44);
        Check.due("lowered", x.timer(3, 7, 0), 2);
        Check.due("includes none", x.member(3, 5, 7, false, 0), 2);
        Check.query("the sources first", x, 1, 3, 7, 65535, 3);
        Check.query("then the group", x, 0, 3, 7, 0, 3);
        x.tick(2);
        Check.due("nothing is left", x.told(3, 4), 0);
    }

    /** From including none to excluding none, and back: the set is the same, what is wanted is other. */
    private static void sameSetOtherMode() {
        GroupFilters x = new GroupFilters(1);
        Check.due("TO_EX of none", x.member(0, 0, 0, true, 0), 0);
        Check.record("TO_EX of none", x, 0, 0, 1, 0, 0, 44);
        Check.due("TO_IN of none", x.member(0, 0, 0, false, 0), 1);
        Check.record("TO_IN of none", x, 0, 0, 1, 0, 0, 2);
        Check.query("of the group alone", x, 0, 0, 0, 0, 0);
        x = new GroupFilters(1);
        x.member(0, 0, 0, false, 6);
        Check.due("TO_EX of the same", x.member(0, 0, 0, true, 6), 1);
        Check.record("TO_EX of the same", x, 0, 0, 1, 6, 0, 44);
        Check.query("TO_EX of the same", x, 0, 0, 0, 6, 0);
        Check.due("TO_IN of the same", x.member(0, 0, 0, false, 6), 1);
        Check.record("TO_IN of the same", x, 0, 0, 1, 6, 0, 2);
        Check.timers("TO_IN of the same", x, 0, 0, 0, 44, 44);
    }

    /** Members 0 .. 5, links, groups: each wish is one's own. */
    private static void membersAreApart() {
        for (int m = 0; m < 6; m++) {
            GroupFilters x = new GroupFilters(4);
            x.member(3, m, 7, true, 1 << m);
            for (int other = 0; other < 6; other++) {
                Check.due("answers of " + other, x.answer(3, other), other == m ? 1 : 0);
                Check.due("answers on another link", x.answer(2, other), 0);
            }
            Check.due("another's wish begins with none", x.member(3, (m + 1) % 6, 7, false, 0), 0);
            Check.due("nothing was asked", x.sent(), 0);
            Check.due("its own does not", x.member(3, m, 7, false, 0), 1);
        }
    }

    /** "All its groups [...] that exclude, or include some": excluding none counts, including none does not. */
    private static void answersOfNone() {
        GroupFilters x = new GroupFilters(1);
        Check.due("includes none", x.answer(0, 0), 0);
        x.member(0, 0, 0, true, 0);
        x.tick(10);
        Check.due("excludes none", x.answer(0, 0), 1);
        Check.record("excludes none", x, 0, 0, 1, 0, 0, 44);
        x.member(0, 0, 0, false, 0);
        Check.due("includes none again", x.answer(0, 0), 0);
        Check.record("GT is lowered still", x, 0, 0, 1, 0, 0, 2);
        x.member(0, 0, 7, false, 32768);
        Check.due("includes some", x.answer(0, 0), 1);
        x.member(0, 0, 7, true, 65535);
        Check.due("excludes all", x.answer(0, 0), 1);
    }

    /** "With IN or EX": kinds that ask nothing, and what another member's report lowered is raised by them. */
    private static void answersOfAllGroups() {
        GroupFilters x = new GroupFilters(2);
        for (int g = 0; g < 8; g++) {
            x.member(1, 2, g, g % 2 == 0, 1 << g);
        }
        x.tick(5);
        for (int g = 0; g < 8; g++) {
            x.report(1, g, g % 2 == 0 ? GroupFilters.TO_IN : GroupFilters.BLOCK, g % 2 == 0 ? 0 : 1 << g);
        }
        int sent = x.sent();
        Check.due("asked by each", sent, 8);
        Check.due("all groups", x.answer(1, 2), 8);
        for (int g = 0; g < 8; g++) {
            Check.record("answered", x, 1, g, g % 2 == 0 ? 1 : 0, g % 2 == 0 ? 0 : 1 << g, g % 2 == 0 ? 1 << g : 0,
                g % 2 == 0 ? 44 : 0);
            Check.due("answered", x.timer(1, g, g), g % 2 == 0 ? 0 : 44);
        }
        Check.due("an answer asks nothing", x.sent(), sent);
        Check.due("again", x.answer(1, 2), 8);
    }

    private static void wantedOfAllAndNone() {
        GroupFilters x = new GroupFilters(4);
        x.member(3, 5, 0, false, 65535);
        x.member(3, 5, 1, true, 65535);
        x.member(3, 5, 2, true, 0);
        x.member(3, 5, 3, true, 1);
        x.member(3, 5, 3, false, 0);
        for (int s = 0; s < 16; s++) {
            Check.due("includes all", x.wanted(3, 0, s), true);
            Check.due("excludes all", x.wanted(3, 1, s), false);
            Check.due("excludes none", x.wanted(3, 2, s), true);
            Check.due("includes none", x.wanted(3, 3, s), false);
            Check.due("another link", x.wanted(0, 0, s), false);
        }
        for (int s = 0; s < 16; s++) {
            x.member(0, s % 6, 7, false, 1 << s);
            Check.due("its one source", x.wanted(0, 7, s), true);
            Check.due("the one before, by another member", x.wanted(0, 7, (s + 15) % 16), s >= 1);
            Check.due("not the one behind", x.wanted(0, 7, (s + 1) % 16), false);
            x.member(0, s % 6, 6, true, 1 << s);
        }
        Check.due("excluded by one of six alone", x.wanted(0, 6, 15), true);
    }

    /** "All others": never the link it comes from. All four pass, and none does. */
    private static void passedToAllAndNone() {
        GroupFilters x = new GroupFilters(4);
        int[] others = {14, 13, 11, 7};
        for (int l = 0; l < 4; l++) {
            x.report(l, 0, GroupFilters.IN, 65535);
            x.report(l, 7, GroupFilters.EX, 0);
            x.report(l, 3, GroupFilters.EX, 65535);
        }
        for (int l = 0; l < 4; l++) {
            for (int s = 0; s < 16; s++) {
                Check.due("all include all", x.passed(l, 0, s), others[l]);
                Check.due("all exclude none", x.passed(l, 7, s), others[l]);
                Check.due("all exclude all", x.passed(l, 3, s), 0);
                Check.due("no record", x.passed(l, 1, s), 0);
            }
        }
        Check.due("one link, to none", oneLinkThatExcludesNone().passed(0, 0, 15), 0);
    }

    private static GroupFilters oneLinkThatExcludesNone() {
        GroupFilters x = new GroupFilters(1);
        x.report(0, 0, GroupFilters.EX, 0);
        return x;
    }

    /** "Whose record includes it, or excludes others than it (in X, or in neither)", as its timer runs out. */
    private static void passedInEachState() {
        GroupFilters x = new GroupFilters(2);
        x.report(1, 0, GroupFilters.EX, 1);
        Check.due("in Y", x.passed(0, 0, 0), 0);
        Check.due("in neither", x.passed(0, 0, 1), 2);
        x.report(1, 0, GroupFilters.ALLOW, 1);
        Check.due("in X", x.passed(0, 0, 0), 2);
        x.report(1, 0, GroupFilters.BLOCK, 3);
        Check.due("in X, asked for", x.passed(0, 0, 0), 2);
        x.tick(1);
        Check.due("in X, at 1", x.passed(0, 0, 1), 2);
        x.tick(1);
        Check.due("in Y when its timer is over", x.passed(0, 0, 0), 0);
        Check.due("in Y when its timer is over", x.passed(0, 0, 1), 0);
        x.report(1, 0, GroupFilters.IN, 4);
        x.tick(42);
        Check.record("GT is over", x, 1, 0, 0, 4, 0, 0);
        Check.due("included", x.passed(0, 0, 2), 2);
        Check.due("neither excluded nor included", x.passed(0, 0, 3), 0);
        x.tick(2);
        Check.due("no record", x.passed(0, 0, 2), 0);
    }
}
