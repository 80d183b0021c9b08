/** All that an object shows of itself, as a text, by calls that change nothing. */
final class Picture {
    private Picture() {
    }

    static int links(GroupFilters x) {
        int many = 0;
        try {
            for (; many < 100; many++) {
                x.told(many, 0);
            }
        } catch (IndexOutOfBoundsException e) {
            return many;
        }
        return many;
    }

    static String of(GroupFilters x) {
        StringBuilder text = new StringBuilder();
        int links = links(x);
        for (int l = 0; l < links; l++) {
            text.append("link ").append(l).append(':');
            for (int what = 0; what < 6; what++) {
                text.append(' ').append(x.told(l, what));
            }
            for (int g = 0; g < 8; g++) {
                addGroup(text, x, l, g);
            }
            text.append('\n');
        }
        addQueries(text, x);
        return text.toString();
    }

    private static void addGroup(StringBuilder text, GroupFilters x, int l, int g) {
        text.append(" | ").append(g).append(": ").append(x.mode(l, g));
        text.append(' ').append(x.sources(l, g, true)).append(' ').append(x.sources(l, g, false));
        text.append(' ').append(x.groupTimer(l, g));
        for (int s = 0; s < 16; s++) {
            text.append(' ').append(x.timer(l, g, s));
            text.append(x.wanted(l, g, s) ? "w" : "").append(x.passed(l, g, s));
        }
    }

    private static void addQueries(StringBuilder text, GroupFilters x) {
        text.append("sent ").append(x.sent());
        for (int k = 0; k < Math.min(40, x.sent()); k++) {
            text.append(" (");
            for (int what = 0; what < 4; what++) {
                text.append(x.asked(k, what)).append(' ');
            }
            text.append(')');
        }
    }
}
