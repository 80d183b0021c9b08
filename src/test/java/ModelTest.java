import java.util.ArrayList;
import java.util.List;
import java.util.Random;
import java.util.function.ToIntFunction;

/**
 * All promises together: long runs of calls, right and wrong ones, compared with the model after each. An
 * object answers for 512 calls alone: each part of it is read off a new one, behind the same calls.
 */
public final class ModelTest {
    private static final int RUNS = 300;
    private static final int CALLS = 120;

    private final Random random;
    private final int many;
    private final GroupFilters x;
    private final List<ToIntFunction<GroupFilters>> calls = new ArrayList<>();
    private Model model;
    private String call = "";

    private ModelTest(int seed) {
        random = new Random(seed);
        many = 1 + random.nextInt(4);
        x = new GroupFilters(many);
        model = new Model(many);
    }

    public static void main(String[] args) {
        for (int seed = 0; seed < RUNS; seed++) {
            ModelTest test = new ModelTest(seed);
            for (int i = 0; i < CALLS; i++) {
                test.oneCall();
                test.compare("seed " + seed + ", call " + i + ", " + test.call);
            }
        }
        Check.end();
    }

    private int upTo(int most) {
        return random.nextInt(most + 1);
    }

    /** Few groups and sources mostly, so that calls meet. */
    private int group() {
        return upTo(9) == 0 ? upTo(7) : upTo(1);
    }

    private int set() {
        int kind = upTo(9);
        return kind == 0 ? 0 : kind == 1 ? upTo(65535) : upTo(31);
    }

    private int ticks() {
        int kind = upTo(19);
        return kind == 0 ? upTo(2000) : kind < 5 ? upTo(60) : upTo(6);
    }

    private void makeCall(String name, ToIntFunction<GroupFilters> made, int due) {
        call = name;
        calls.add(made);
        Check.due(call, made.applyAsInt(x), due);
    }

    private GroupFilters sameAgain() {
        GroupFilters again = new GroupFilters(many);
        for (ToIntFunction<GroupFilters> one : calls) {
            one.applyAsInt(again);
        }
        return again;
    }

    private void oneCall() {
        int link = upTo(many - 1);
        int kind = upTo(99);
        if (kind < 8) {
            makeSettings(link);
        } else if (kind < 48) {
            report(link);
        } else if (kind < 56) {
            query(link);
        } else if (kind < 75) {
            int ticks = ticks();
            makeCall("tick(" + ticks + ")", y -> y.tick(ticks), model.tick(ticks));
        } else if (kind < 91) {
            member(link);
        } else if (kind < 95) {
            int member = upTo(5);
            makeCall("answer(" + link + ", " + member + ")", y -> y.answer(link, member), model.answer(link, member));
        } else if (kind < 99) {
            wrongCall(link);
        } else if (upTo(4) == 0) {
            model = new Model(many);
            makeCall("clear()", ModelTest::cleared, 0);
        }
    }

    private static int cleared(GroupFilters y) {
        y.clear();
        return 0;
    }

    private void makeSettings(int link) {
        int often = 1 + upTo(upTo(4) == 0 ? 6 : 2);
        int interval = 1 + upTo(upTo(4) == 0 ? 199 : 14);
        int delay = 1 + upTo(interval - 1);
        makeCall("settings(" + link + ", " + often + ", " + interval + ", " + delay + ")",
            y -> y.settings(link, often, interval, delay), model.settings(link, often, interval, delay));
    }

    private void report(int link) {
        int group = group();
        int kind = upTo(5);
        int set = set();
        makeCall("report(" + link + ", " + group + ", " + kind + ", " + set + ")",
            y -> y.report(link, group, kind, set), model.report(link, group, kind, set));
    }

    private void query(int link) {
        int address = upTo(2) == 0 ? 498 + upTo(4) : upTo(999);
        int group = group() - upTo(1);
        int set = set();
        boolean suppressed = upTo(3) == 0;
        makeCall("query(" + link + ", " + address + ", " + group + ", " + set + ", " + suppressed + ")",
            y -> y.query(link, address, group, set, suppressed) ? 1 : 0,
            model.query(link, address, group, set, suppressed) ? 1 : 0);
    }

    private void member(int link) {
        int member = upTo(5);
        int group = group();
        boolean excludes = random.nextBoolean();
        int set = set();
        makeCall("member(" + link + ", " + member + ", " + group + ", " + excludes + ", " + set + ")",
            y -> y.member(link, member, group, excludes, set), model.member(link, member, group, excludes, set));
    }

    /** The model does not hear of it: the comparison behind it shows that it changed nothing. */
    private void wrongCall(int link) {
        int kind = upTo(6);
        makeCall("wrong call " + kind,
            y -> Check.thrown(() -> callWrongly(y, kind, link)).equals("nothing") ? 0 : 1, 1);
    }

    private static void callWrongly(GroupFilters y, int kind, int link) {
        switch (kind) {
            case 0:
                y.settings(link, 1, 5, 6);
                break;
            case 1:
                y.report(link, 0, 3, 65536);
                break;
            case 2:
                y.query(link, 3, 0, -1, false);
                break;
            case 3:
                y.tick(2001);
                break;
            case 4:
                y.member(link, 0, 0, true, 65536);
                break;
            case 5:
                y.member(link, 6, 0, true, 1);
                break;
            default:
                y.answer(link, 6);
                break;
        }
    }

    private void compare(String when) {
        for (int l = 0; l < many; l++) {
            compareLink(when + ": link " + l, sameAgain(), l, 0);
            compareLink(when + ": link " + l, sameAgain(), l, 4);
        }
        GroupFilters y = sameAgain();
        Check.due(when + ": sent", y.sent(), model.queries.size());
        for (int k = 0; k < Math.min(40, model.queries.size()); k++) {
            Check.query(when, y, k, model.queries.get(model.queries.size() - 1 - k));
        }
    }

    private void compareLink(String where, GroupFilters y, int l, int firstGroup) {
        for (int what = 0; what < 6; what++) {
            Check.due(where + ": told(" + what + ")", y.told(l, what), model.told(l, what));
        }
        for (int g = firstGroup; g < firstGroup + 4; g++) {
            compareGroup(where + ", group " + g, y, l, g);
        }
    }

    private void compareGroup(String where, GroupFilters y, int l, int g) {
        Model.Group due = model.links.get(l).groups[g];
        int running = Model.number(due.timed.keySet());
        Check.record(where, y, l, g, due.mode(), running, Model.number(due.silent), due.gt);
        for (int s = 0; s < 16; s++) {
            Check.due(where + ": timer", y.timer(l, g, s), due.timed.getOrDefault(s, 0));
            Check.due(where + ": wanted", y.wanted(l, g, s), model.wanted(l, g, s));
            Check.due(where + ": passed", y.passed(l, g, s), model.passed(l, g, s));
        }
    }
}
