import java.util.ArrayList;
import java.util.List;
import java.util.TreeMap;
import java.util.TreeSet;

/**
 * The document's terms written down a second time, word for word and tick by tick, for comparison with the
 * class. It takes right arguments only.
 */
final class Model {
    /** A record; none includes nothing. */
    static final class Group {
        boolean excludes;
        /** A, or X, with timers. */
        TreeMap<Integer, Integer> timed = new TreeMap<>();
        /** Y. */
        TreeSet<Integer> silent = new TreeSet<>();
        int gt;

        int mode() {
            return excludes ? 1 : timed.isEmpty() ? -1 : 0;
        }
    }

    static final class Link {
        int r = 2;
        int q = 20;
        int d = 4;
        boolean asks = true;
        int least = 500;
        int wait = 0;
        int sinceClock = 0;
        Group[] groups = new Group[8];
        boolean[][] excluding = new boolean[6][8];
        List<List<TreeSet<Integer>>> wishes = new ArrayList<>();

        Link() {
            for (int g = 0; g < 8; g++) {
                groups[g] = new Group();
            }
            for (int m = 0; m < 6; m++) {
                List<TreeSet<Integer>> row = new ArrayList<>();
                for (int g = 0; g < 8; g++) {
                    row.add(new TreeSet<>());
                }
                wishes.add(row);
            }
        }

        int grace() {
            return r * q + d;
        }
    }

    List<Link> links = new ArrayList<>();
    List<int[]> queries = new ArrayList<>();
    int now = 0;

    Model(int many) {
        for (int l = 0; l < many; l++) {
            links.add(new Link());
        }
    }

    static TreeSet<Integer> set(int number) {
        TreeSet<Integer> set = new TreeSet<>();
        for (int s = 0; s < 16; s++) {
            if ((number / (1 << s)) % 2 == 1) {
                set.add(s);
            }
        }
        return set;
    }

    static int number(Iterable<Integer> set) {
        int sum = 0;
        for (int s : set) {
            sum += 1 << s;
        }
        return sum;
    }

    static TreeSet<Integer> plus(Iterable<Integer> a, Iterable<Integer> b) {
        TreeSet<Integer> set = new TreeSet<>();
        a.forEach(set::add);
        b.forEach(set::add);
        return set;
    }

    static TreeSet<Integer> both(TreeSet<Integer> a, TreeSet<Integer> b) {
        TreeSet<Integer> set = new TreeSet<>(a);
        set.retainAll(b);
        return set;
    }

    static TreeSet<Integer> minus(TreeSet<Integer> a, TreeSet<Integer> b) {
        TreeSet<Integer> set = new TreeSet<>(a);
        set.removeAll(b);
        return set;
    }

    /** The sources become these; those that were there keep their timers, others have 0 till they get one. */
    static void become(Group group, TreeSet<Integer> sources) {
        TreeMap<Integer, Integer> timed = new TreeMap<>();
        for (int s : sources) {
            timed.put(s, group.timed.getOrDefault(s, 0));
        }
        group.timed = timed;
    }

    static void time(Group group, TreeSet<Integer> sources, int t) {
        for (int s : sources) {
            group.timed.put(s, t);
        }
    }

    int settings(int link, int often, int interval, int delay) {
        Link at = links.get(link);
        at.r = often;
        at.q = interval;
        at.d = delay;
        at.sinceClock = 0;
        return at.grace();
    }

    int report(int link, int group, int kind, int number) {
        int before = queries.size();
        Link at = links.get(link);
        Group g = at.groups[group];
        TreeSet<Integer> b = set(number);
        if (g.excludes) {
            reportToExcluding(link, group, kind, b);
        } else {
            reportToIncluding(link, group, kind, b);
        }
        return queries.size() - before;
    }

    private void reportToIncluding(int link, int group, int kind, TreeSet<Integer> b) {
        Link at = links.get(link);
        Group g = at.groups[group];
        TreeSet<Integer> a = new TreeSet<>(g.timed.keySet());
        if (kind == 0 || kind == 2 || kind == 4) {
            become(g, plus(a, b));
            time(g, b, at.grace());
        }
        if (kind == 1 || kind == 3) {
            g.excludes = true;
            become(g, both(a, b));
            g.silent = minus(b, a);
            g.gt = at.grace();
        }
        if (kind == 2) {
            ask(link, group, minus(a, b));
        }
        if (kind == 3 || kind == 5) {
            ask(link, group, both(a, b));
        }
    }

    private void reportToExcluding(int link, int group, int kind, TreeSet<Integer> b) {
        Link at = links.get(link);
        Group g = at.groups[group];
        TreeSet<Integer> x = new TreeSet<>(g.timed.keySet());
        TreeSet<Integer> y = g.silent;
        TreeSet<Integer> fresh = minus(minus(b, x), y);
        int gt = g.gt;
        if (kind == 0 || kind == 2 || kind == 4) {
            become(g, plus(x, b));
            g.silent = minus(y, b);
            time(g, b, at.grace());
        }
        if (kind == 1 || kind == 3) {
            become(g, minus(b, y));
            g.silent = both(y, b);
            time(g, fresh, kind == 1 ? at.grace() : gt);
            g.gt = at.grace();
        }
        if (kind == 5) {
            become(g, plus(x, minus(b, y)));
            time(g, fresh, gt);
        }
        if (kind == 2) {
            ask(link, group, minus(x, b));
            askGroup(link, group);
        }
        if (kind == 3 || kind == 5) {
            ask(link, group, minus(b, y));
        }
    }

    private void ask(int link, int group, TreeSet<Integer> set) {
        if (!set.isEmpty() && links.get(link).asks) {
            queries.add(new int[] {link, group, number(set), now});
            lower(link, group, set);
        }
    }

    private void askGroup(int link, int group) {
        if (links.get(link).asks) {
            queries.add(new int[] {link, group, 0, now});
            lowerGroup(link, group);
        }
    }

    private void lower(int link, int group, TreeSet<Integer> set) {
        Link at = links.get(link);
        for (int s : set) {
            Integer t = at.groups[group].timed.get(s);
            if (t != null && t > at.r) {
                at.groups[group].timed.put(s, at.r);
            }
        }
    }

    private void lowerGroup(int link, int group) {
        Link at = links.get(link);
        if (at.groups[group].gt > at.r) {
            at.groups[group].gt = at.r;
        }
    }

    boolean query(int link, int address, int group, int set, boolean suppressed) {
        Link at = links.get(link);
        if (address >= 500) {
            return at.asks;
        }
        at.least = at.asks ? address : Math.min(at.least, address);
        at.asks = false;
        at.wait = at.r * at.q + at.d / 2;
        if (group != -1 && !suppressed && set != 0) {
            lower(link, group, set(set));
        }
        if (group != -1 && !suppressed && set == 0) {
            lowerGroup(link, group);
        }
        return false;
    }

    int tick(int many) {
        int before = queries.size();
        for (int i = 0; i < many; i++) {
            now++;
            for (int l = 0; l < links.size(); l++) {
                for (Group g : links.get(l).groups) {
                    oneTick(g);
                }
                oneTick(l);
            }
        }
        return queries.size() - before;
    }

    private void oneTick(Group g) {
        for (int s : new ArrayList<>(g.timed.keySet())) {
            g.timed.put(s, g.timed.get(s) - 1);
        }
        if (g.excludes) {
            g.gt--;
            if (g.gt == 0) {
                g.excludes = false;
                g.silent = new TreeSet<>();
            }
        }
        for (int s : new ArrayList<>(g.timed.keySet())) {
            if (g.timed.get(s) == 0) {
                g.timed.remove(s);
                if (g.excludes) {
                    g.silent.add(s);
                }
            }
        }
    }

    private void oneTick(int l) {
        Link at = links.get(l);
        if (!at.asks) {
            at.wait--;
            if (at.wait == 0) {
                at.asks = true;
                at.sinceClock = 0;
            }
            return;
        }
        at.sinceClock++;
        if (at.sinceClock == at.q) {
            queries.add(new int[] {l, -1, 0, now});
            at.sinceClock = 0;
        }
    }

    int member(int link, int member, int group, boolean excludes, int number) {
        int before = queries.size();
        Link at = links.get(link);
        TreeSet<Integer> a = at.wishes.get(member).get(group);
        TreeSet<Integer> b = set(number);
        boolean was = at.excluding[member][group];
        at.wishes.get(member).set(group, b);
        at.excluding[member][group] = excludes;
        if (!was && !excludes) {
            reportSome(link, group, 4, minus(b, a));
            reportSome(link, group, 5, minus(a, b));
        } else if (was && excludes) {
            reportSome(link, group, 4, minus(a, b));
            reportSome(link, group, 5, minus(b, a));
        } else if (excludes) {
            report(link, group, 3, number);
        } else {
            report(link, group, 2, number);
        }
        return queries.size() - before;
    }

    private void reportSome(int link, int group, int kind, TreeSet<Integer> set) {
        if (!set.isEmpty()) {
            report(link, group, kind, number(set));
        }
    }

    int answer(int link, int member) {
        Link at = links.get(link);
        int many = 0;
        for (int g = 0; g < 8; g++) {
            TreeSet<Integer> wish = at.wishes.get(member).get(g);
            if (at.excluding[member][g]) {
                report(link, g, 1, number(wish));
                many++;
            } else if (!wish.isEmpty()) {
                report(link, g, 0, number(wish));
                many++;
            }
        }
        return many;
    }

    boolean wanted(int link, int group, int source) {
        Link at = links.get(link);
        boolean wanted = false;
        for (int m = 0; m < 6; m++) {
            boolean has = at.wishes.get(m).get(group).contains(source);
            wanted |= at.excluding[m][group] ? !has : has;
        }
        return wanted;
    }

    int passed(int link, int group, int source) {
        int sum = 0;
        for (int l = 0; l < links.size(); l++) {
            Group g = links.get(l).groups[group];
            boolean on = g.excludes ? !g.silent.contains(source) : g.timed.containsKey(source);
            if (l != link && on) {
                sum += 1 << l;
            }
        }
        return sum;
    }

    int told(int link, int what) {
        Link at = links.get(link);
        int records = 0;
        for (Group g : at.groups) {
            records += g.mode() == -1 ? 0 : 1;
        }
        int[] all = {at.grace(), at.r, at.asks ? 500 : at.least, at.asks ? 0 : at.wait, records,
            at.asks ? at.q - at.sinceClock : 0};
        return all[what];
    }
}
