import java.util.Arrays;
import java.util.function.Supplier;

/**
 * "IndexOutOfBounds: there is no such link, group, source, member, query. IllegalArgument: another number is
 * none that is told. Of several that a call names, the first one. A call that throws changes nothing."
 *
 * Each call of the face that can be refused, with each of its numbers at the least and the greatest that is
 * right, one beyond either, and as far off as an int goes: all of these together with all.
 */
public final class WrongCallsTest {
    /** A number that a call names, from the least to the greatest that is right. */
    private record Named(int least, int most, Class<? extends RuntimeException> beyond) {
        static Named index(int least, int most) {
            return new Named(least, most, IndexOutOfBoundsException.class);
        }

        static Named number(int least, int most) {
            return new Named(least, most, IllegalArgumentException.class);
        }

        int[] edges() {
            return new int[] {Integer.MIN_VALUE, least - 1, least, most, most + 1, Integer.MAX_VALUE};
        }

        boolean isRight(int value) {
            return value >= least && value <= most;
        }
    }

    private interface Call {
        void on(GroupFilters x, int[] a);
    }

    private static final int SENT = 3;
    private static final Named LINK = Named.index(0, 2);
    private static final Named GROUP = Named.index(0, 7);
    private static final Named GROUP_OR_NONE = Named.index(GroupFilters.NONE, 7);
    private static final Named SOURCE = Named.index(0, 15);
    private static final Named MEMBER = Named.index(0, 5);
    private static final Named SET = Named.number(0, 65535);
    private static final Named OFTEN = Named.number(1, 7);
    private static final Named INTERVAL = Named.number(1, 200);

    private final Supplier<GroupFilters> made;
    private final String now;
    private final String later;

    private WrongCallsTest(Supplier<GroupFilters> made) {
        this.made = made;
        now = Picture.of(made);
        later = Picture.later(made);
    }

    public static void main(String[] args) {
        WrongCallsTest test = new WrongCallsTest(WrongCallsTest::used);
        test.refusals();
        test.refusalsOfLooks();
        askedOfManyQueries();
        linksThatItWasNotMadeWith();
        Check.end();
    }

    /** Records that include and that exclude, members, settings, another that asks, three queries sent. */
    private static GroupFilters used() {
        GroupFilters x = new GroupFilters(3);
        x.settings(0, 3, 40, 5);
        x.report(0, 0, GroupFilters.EX, 6);
        x.report(0, 0, GroupFilters.ALLOW, 3);
        x.report(0, 7, GroupFilters.IN, 32769);
        x.member(0, 0, 1, true, 5);
        x.member(0, 5, 2, false, 9);
        x.member(1, 5, 7, true, 0);
        x.member(2, 0, 0, false, 65535);
        x.tick(7);
        x.query(1, 30, GroupFilters.NONE, 0, false);
        x.report(0, 7, GroupFilters.BLOCK, 1);
        x.report(2, 7, GroupFilters.EX, 1);
        x.report(2, 7, GroupFilters.TO_IN, 0);
        x.tick(13);
        Check.due("queries of the object that is called wrongly", x.sent(), SENT);
        return x;
    }

    private void refusals() {
        tryAll("settings(l, r, 200, d)", (x, a) -> x.settings(a[0], a[1], 200, a[2]),
            LINK, OFTEN, Named.number(1, 200));
        tryAll("settings(l, r, 20, d)", (x, a) -> x.settings(a[0], a[1], 20, a[2]),
            LINK, OFTEN, Named.number(1, 20));
        tryAll("settings(l, r, 1, d)", (x, a) -> x.settings(a[0], a[1], 1, a[2]), LINK, OFTEN, Named.number(1, 1));
        tryAll("settings(l, r, q, 1)", (x, a) -> x.settings(a[0], a[1], a[2], 1), LINK, OFTEN, INTERVAL);
        tryAll("report", (x, a) -> x.report(a[0], a[1], a[2], a[3]), LINK, GROUP, Named.number(0, 5), SET);
        tryAll("query(l, a, g, s, false)", (x, a) -> x.query(a[0], a[1], a[2], a[3], false),
            LINK, Named.number(0, 999), GROUP_OR_NONE, SET);
        tryAll("query(l, a, g, s, true)", (x, a) -> x.query(a[0], a[1], a[2], a[3], true),
            LINK, Named.number(0, 999), GROUP_OR_NONE, SET);
        tryAll("tick", (x, a) -> x.tick(a[0]), Named.number(0, 2000));
        tryAll("member(l, m, g, true, s)", (x, a) -> x.member(a[0], a[1], a[2], true, a[3]),
            LINK, MEMBER, GROUP, SET);
        tryAll("member(l, m, g, false, s)", (x, a) -> x.member(a[0], a[1], a[2], false, a[3]),
            LINK, MEMBER, GROUP, SET);
        tryAll("answer", (x, a) -> x.answer(a[0], a[1]), LINK, MEMBER);
    }

    private void refusalsOfLooks() {
        tryAll("wanted", (x, a) -> x.wanted(a[0], a[1], a[2]), LINK, GROUP, SOURCE);
        tryAll("passed", (x, a) -> x.passed(a[0], a[1], a[2]), LINK, GROUP, SOURCE);
        tryAll("mode", (x, a) -> x.mode(a[0], a[1]), LINK, GROUP);
        tryAll("sources(l, g, true)", (x, a) -> x.sources(a[0], a[1], true), LINK, GROUP);
        tryAll("sources(l, g, false)", (x, a) -> x.sources(a[0], a[1], false), LINK, GROUP);
        tryAll("timer", (x, a) -> x.timer(a[0], a[1], a[2]), LINK, GROUP, SOURCE);
        tryAll("groupTimer", (x, a) -> x.groupTimer(a[0], a[1]), LINK, GROUP);
        tryAll("asked", (x, a) -> x.asked(a[0], a[1]), Named.index(0, SENT - 1), Named.number(0, 3));
        tryAll("told", (x, a) -> x.told(a[0], a[1]), LINK, Named.number(0, 5));
    }

    private void tryAll(String name, Call call, Named... named) {
        tryFrom(0, name, call, named, new int[named.length]);
    }

    private void tryFrom(int at, String name, Call call, Named[] named, int[] values) {
        if (at == named.length) {
            tryOne(name + " with " + Arrays.toString(values), call, named, values);
            return;
        }
        for (int value : named[at].edges()) {
            values[at] = value;
            tryFrom(at + 1, name, call, named, values);
        }
    }

    private void tryOne(String name, Call call, Named[] named, int[] values) {
        String due = "nothing";
        for (int i = named.length - 1; i >= 0; i--) {
            if (!named[i].isRight(values[i])) {
                due = named[i].beyond().getName();
            }
        }
        GroupFilters x = made.get();
        Check.due(name + " throws", Check.thrown(() -> call.on(x, values)), due);
        if (!due.equals("nothing")) {
            Supplier<GroupFilters> called = () -> afterThe(call, values);
            Check.due(name + " changes nothing", Picture.of(called), now);
            Check.due(name + " changes nothing that shows later", Picture.later(called), later);
        }
    }

    private GroupFilters afterThe(Call call, int[] values) {
        GroupFilters x = made.get();
        Check.thrown(() -> call.on(x, values));
        return x;
    }

    /** "k before the latest one (0 .. 39)": of none, of 39, of 40 and of more, the edge is where it should be. */
    private static void askedOfManyQueries() {
        int[] sent = {0, 1, 39, 40, 41, 80, 81, 2000};
        for (int many : sent) {
            GroupFilters x = new GroupFilters(1);
            x.settings(0, 1, 1, 1);
            x.tick(many);
            int most = Math.min(many, 40) - 1;
            for (int what : new int[] {-1, 0, 3, 4}) {
                Check.noIndex("asked(" + (most + 1) + ", " + what + ") of " + many, () -> x.asked(most + 1, what));
                Check.noIndex("asked(-1, " + what + ") of " + many, () -> x.asked(-1, what));
            }
            if (most >= 0) {
                Check.due("asked(" + most + ", 3) of " + many, x.asked(most, 3), many - most);
                Check.noArgument("asked(" + most + ", 4) of " + many, () -> x.asked(most, 4));
                Check.noArgument("asked(0, -1) of " + many, () -> x.asked(0, -1));
            }
        }
    }

    /** "There is no such link": one that an object with more links has is refused by one with fewer. */
    private static void linksThatItWasNotMadeWith() {
        for (int links = 1; links <= 4; links++) {
            GroupFilters x = new GroupFilters(links);
            for (int link = 0; link <= 4; link++) {
                int l = link;
                Runnable[] calls = {() -> x.settings(l, 2, 20, 4), () -> x.report(l, 0, 0, 1),
                    () -> x.query(l, 700, 0, 0, false), () -> x.member(l, 0, 0, false, 1), () -> x.answer(l, 0),
                    () -> x.wanted(l, 0, 0), () -> x.passed(l, 0, 0), () -> x.mode(l, 0),
                    () -> x.sources(l, 0, true), () -> x.timer(l, 0, 0), () -> x.groupTimer(l, 0), () -> x.told(l, 0)};
                String due = l < links ? "nothing" : IndexOutOfBoundsException.class.getName();
                for (int i = 0; i < calls.length; i++) {
                    Check.due("call " + i + " of link " + l + " of " + links + " throws", Check.thrown(calls[i]), due);
                }
            }
        }
    }
}
