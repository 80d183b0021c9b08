import java.util.function.Supplier;

/**
 * All that an object shows of itself, as a text. An object answers for 512 calls alone: each part is read
 * off an object of its own, all of them made by the same calls (some forty at most).
 */
final class Picture {
    private Picture() {
    }

    static int links(GroupFilters x) {
        int many = 0;
        while (many < 9 && hasLink(x, many)) {
            many++;
        }
        return many;
    }

    private static boolean hasLink(GroupFilters x, int link) {
        return Check.thrown(() -> x.told(link, 0)).equals("nothing");
    }

    static String of(Supplier<GroupFilters> made) {
        StringBuilder text = new StringBuilder();
        int links = links(made.get());
        for (int l = 0; l < links; l++) {
            addLink(text, made.get(), l);
        }
        addQueries(text, made.get());
        return text.toString();
    }

    /** What each member wants, and the settings one by one, show only in what comes of them. */
    static String later(Supplier<GroupFilters> made) {
        StringBuilder answers = new StringBuilder();
        goOn(made.get(), answers);
        return answers + of(() -> goOn(made.get(), new StringBuilder()));
    }

    private static GroupFilters goOn(GroupFilters x, StringBuilder answers) {
        int links = links(x);
        for (int l = 0; l < links; l++) {
            answers.append("answers on ").append(l).append(':');
            for (int m = 0; m < 6; m++) {
                answers.append(' ').append(x.answer(l, m));
            }
            answers.append(' ').append(x.tick(3)).append('\n');
            x.query(l, 400 + l, GroupFilters.NONE, 0, false);
        }
        return x;
    }

    private static void addLink(StringBuilder text, GroupFilters x, int l) {
        text.append("link ").append(l).append(':');
        for (int what = 0; what < 6; what++) {
            text.append(' ').append(x.told(l, what));
        }
        for (int g = 0; g < 8; g++) {
            addGroup(text, x, l, g);
        }
        text.append('\n');
    }

    private static void addGroup(StringBuilder text, GroupFilters x, int l, int g) {
        text.append(" | ").append(g).append(": ").append(x.mode(l, g));
        text.append(' ').append(x.sources(l, g, true)).append(' ').append(x.sources(l, g, false));
        text.append(' ').append(x.groupTimer(l, g));
        for (int s = 0; s < 16; s++) {
            text.append(' ').append(x.timer(l, g, s));
            text.append(x.wanted(l, g, s) ? "w" : "p").append(x.passed(l, g, s));
        }
    }

    private static void addQueries(StringBuilder text, GroupFilters x) {
        int sent = x.sent();
        text.append("sent ").append(sent);
        for (int k = 0; k < Math.min(40, sent); k++) {
            text.append(" (");
            for (int what = 0; what < 4; what++) {
                text.append(x.asked(k, what)).append(' ');
            }
            text.append(')');
        }
    }
}
