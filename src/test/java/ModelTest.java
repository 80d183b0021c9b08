import java.util.Random;

/** All promises together: long runs of calls, right and wrong ones, compared with the model after each. */
public final class ModelTest {
    private static final int RUNS = 400;
    private static final int CALLS = 120;

    private final Random random;
    private final int many;
    private final GroupFilters x;
    private Model model;
    private String call = "";

    private ModelTest(int seed) {
        random = new Random(seed);
        many = 1 + random.nextInt(4);
        x = new GroupFilters(many);
        model = new Model(many);
    }

    public static void main(String[] args) {
        for (int seed = 0; seed < RUNS; seed++) {
            ModelTest test = new ModelTest(seed);
            for (int i = 0; i < CALLS; i++) {
                test.oneCall();
                test.compare("seed " + seed + ", call " + i + ", " + test.call);
            }
        }
        Check.end();
    }

    private int upTo(int most) {
        return random.nextInt(most + 1);
    }

    /** Few groups and sources mostly, so that calls meet. */
    private int group() {
        return upTo(9) == 0 ? upTo(7) : upTo(1);
    }

    private int set() {
        int kind = upTo(9);
        return kind == 0 ? 0 : kind == 1 ? upTo(65535) : upTo(31);
    }

    private int ticks() {
        int kind = upTo(19);
        return kind == 0 ? upTo(2000) : kind < 5 ? upTo(60) : upTo(6);
    }

    private void due(long got, long want) {
        Check.due(call, got, want);
    }

    private void oneCall() {
        int link = upTo(many - 1);
        int kind = upTo(99);
        if (kind < 8) {
            makeSettings(link);
        } else if (kind < 48) {
            report(link);
        } else if (kind < 56) {
            query(link);
        } else if (kind < 75) {
            int ticks = ticks();
            call = "tick(" + ticks + ")";
            due(x.tick(ticks), model.tick(ticks));
        } else if (kind < 91) {
            member(link);
        } else if (kind < 95) {
            int member = upTo(5);
            call = "answer(" + link + ", " + member + ")";
            due(x.answer(link, member), model.answer(link, member));
        } else if (kind < 99) {
            wrongCall(link);
        } else if (upTo(4) == 0) {
            call = "clear()";
            x.clear();
            model = new Model(many);
        }
    }

    private void makeSettings(int link) {
        int often = 1 + upTo(upTo(4) == 0 ? 6 : 2);
        int interval = 1 + upTo(upTo(4) == 0 ? 199 : 14);
        int delay = 1 + upTo(interval - 1);
        call = "settings(" + link + ", " + often + ", " + interval + ", " + delay + ")";
        due(x.settings(link, often, interval, delay), model.settings(link, often, interval, delay));
    }

    private void report(int link) {
        int group = group();
        int kind = upTo(5);
        int set = set();
        call = "report(" + link + ", " + group + ", " + kind + ", " + set + ")";
        due(x.report(link, group, kind, set), model.report(link, group, kind, set));
    }

    private void query(int link) {
        int address = upTo(2) == 0 ? 498 + upTo(4) : upTo(999);
        int group = group() - upTo(1);
        int set = set();
        boolean suppressed = upTo(3) == 0;
        call = "query(" + link + ", " + address + ", " + group + ", " + set + ", " + suppressed + ")";
        Check.due(call, x.query(link, address, group, set, suppressed),
            model.query(link, address, group, set, suppressed));
    }

    private void member(int link) {
        int member = upTo(5);
        int group = group();
        boolean excludes = random.nextBoolean();
        int set = set();
        call = "member(" + link + ", " + member + ", " + group + ", " + excludes + ", " + set + ")";
        due(x.member(link, member, group, excludes, set), model.member(link, member, group, excludes, set));
    }

    /** The model does not hear of it: the comparison behind it shows that it changed nothing. */
    private void wrongCall(int link) {
        call = "a wrong call";
        boolean thrown = false;
        try {
            switch (upTo(6)) {
                case 0:
                    x.settings(link, 1, 5, 6);
                    break;
                case 1:
                    x.report(link, 0, 3, 65536);
                    break;
                case 2:
                    x.query(link, 3, 0, -1, false);
                    break;
                case 3:
                    x.tick(2001);
                    break;
                case 4:
                    x.member(link, 0, 0, true, 65536);
                    break;
                case 5:
                    x.member(link, 6, 0, true, 1);
                    break;
                default:
                    x.answer(link, 6);
                    break;
            }
        } catch (IndexOutOfBoundsException | IllegalArgumentException e) {
            thrown = true;
        }
        Check.due(call, thrown, true);
    }

    private void compare(String when) {
        for (int l = 0; l < many; l++) {
            for (int what = 0; what < 6; what++) {
                Check.due(when + ": told(" + l + ", " + what + ")", x.told(l, what), model.told(l, what));
            }
            for (int g = 0; g < 8; g++) {
                compareGroup(when + ": link " + l + ", group " + g, l, g);
            }
        }
        Check.due(when + ": sent", x.sent(), model.queries.size());
        for (int k = 0; k < Math.min(40, model.queries.size()); k++) {
            Check.query(when, x, k, model.queries.get(model.queries.size() - 1 - k));
        }
    }

    private void compareGroup(String where, int l, int g) {
        Model.Group due = model.links.get(l).groups[g];
        int running = Model.number(due.timed.keySet());
        Check.record(where, x, l, g, new int[] {due.mode(), running, Model.number(due.silent), due.gt});
        for (int s = 0; s < 16; s++) {
            Check.due(where + ": timer", x.timer(l, g, s), due.timed.getOrDefault(s, 0));
            Check.due(where + ": wanted", x.wanted(l, g, s), model.wanted(l, g, s));
            Check.due(where + ": passed", x.passed(l, g, s), model.passed(l, g, s));
        }
    }
}
