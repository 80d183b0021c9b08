/**
 * A router that keeps for each of its links, and each group, what members there want to hear, by the
 * rules of RFC 3376. Sets of sources are numbers, 2^s for each source s.
 */
public final class GroupFilters {
    public static final int NONE = -1;
    public static final int IN = 0, EX = 1, TO_IN = 2, TO_EX = 3, ALLOW = 4, BLOCK = 5;

    private static final int MOST_LINKS = 4;
    private static final int GROUPS = 8;
    private static final int SOURCES = 16;
    private static final int MEMBERS = 6;
    private static final int ALL_SOURCES = 65535;
    private static final int MOST_OFTEN = 7;
    private static final int LONGEST_INTERVAL = 200;
    private static final int MOST_TICKS = 2000;
    private static final int OWN_ADDRESS = 500;
    private static final int HIGHEST_ADDRESS = 999;
    private static final int KEPT_QUERIES = 40;

    private final Link[] links;
    private final QueryLog log;

    public GroupFilters(int links) {
        int many = Math.max(1, Math.min(links, MOST_LINKS));
        this.links = new Link[many];
        for (int i = 0; i < many; i++) {
            this.links[i] = new Link(i);
        }
        log = new QueryLog();
    }

    public int settings(int link, int often, int interval, int delay)
            throws IndexOutOfBoundsException, IllegalArgumentException {
        checkIndex(link, links.length);
        checkNumber(often, 1, MOST_OFTEN);
        checkNumber(interval, 1, LONGEST_INTERVAL);
        checkNumber(delay, 1, interval);
        links[link].set(often, interval, delay);
        return links[link].grace();
    }

    public int report(int link, int group, int kind, int set)
            throws IndexOutOfBoundsException, IllegalArgumentException {
        checkIndex(link, links.length);
        checkIndex(group, GROUPS);
        checkNumber(kind, IN, BLOCK);
        checkNumber(set, 0, ALL_SOURCES);
        int before = log.count;
        links[link].hearReport(log, group, kind, set);
        return log.count - before;
    }

    public boolean query(int link, int address, int group, int set, boolean suppressed)
            throws IndexOutOfBoundsException, IllegalArgumentException {
        checkIndex(link, links.length);
        checkNumber(address, 0, HIGHEST_ADDRESS);
        if (group != NONE) {
            checkIndex(group, GROUPS);
        }
        checkNumber(set, 0, ALL_SOURCES);
        if (address < OWN_ADDRESS) {
            links[link].yieldTo(address);
            if (group != NONE && !suppressed) {
                links[link].hearQuery(group, set);
            }
        }
        return links[link].asks();
    }

    public int tick(int many) throws IllegalArgumentException {
        checkNumber(many, 0, MOST_TICKS);
        int before = log.count;
        for (int i = 0; i < links.length; i++) {
            links[i].ageFilters(many);
        }
        runClocks(many);
        return log.count - before;
    }

    public int member(int link, int member, int group, boolean excludes, int set)
            throws IndexOutOfBoundsException, IllegalArgumentException {
        checkIndex(link, links.length);
        checkIndex(member, MEMBERS);
        checkIndex(group, GROUPS);
        checkNumber(set, 0, ALL_SOURCES);
        int before = log.count;
        links[link].changeWish(log, member, group, excludes, set);
        return log.count - before;
    }

    public int answer(int link, int member) throws IndexOutOfBoundsException {
        checkIndex(link, links.length);
        checkIndex(member, MEMBERS);
        return links[link].letAnswer(log, member);
    }

    public boolean wanted(int link, int group, int source) throws IndexOutOfBoundsException {
        checkPlace(link, group, source);
        return links[link].hasMemberFor(group, source);
    }

    public int passed(int link, int group, int source) throws IndexOutOfBoundsException {
        checkPlace(link, group, source);
        int onto = 0;
        for (int i = 0; i < links.length; i++) {
            if (i != link && links[i].filters[group].lets(source)) {
                onto |= 1 << i;
            }
        }
        return onto;
    }

    public int mode(int link, int group) throws IndexOutOfBoundsException {
        return filterAt(link, group).state();
    }

    public int sources(int link, int group, boolean running) throws IndexOutOfBoundsException {
        Filter filter = filterAt(link, group);
        return running ? filter.running : filter.stopped;
    }

    public int timer(int link, int group, int source) throws IndexOutOfBoundsException {
        checkPlace(link, group, source);
        return links[link].filters[group].timers[source];
    }

    public int groupTimer(int link, int group) throws IndexOutOfBoundsException {
        return filterAt(link, group).ownTimer;
    }

    public int sent() {
        return log.count;
    }

    public int asked(int k, int what) throws IndexOutOfBoundsException, IllegalArgumentException {
        checkIndex(k, Math.min(log.count, KEPT_QUERIES));
        checkNumber(what, 0, 3);
        return log.look(k, what);
    }

    public int told(int link, int what) throws IndexOutOfBoundsException, IllegalArgumentException {
        checkIndex(link, links.length);
        checkNumber(what, 0, 5);
        Link at = links[link];
        switch (what) {
            case 0:
                return at.grace();
            case 1:
                return at.last();
            case 2:
                return at.asker;
            case 3:
                return at.asks() ? 0 : at.countdown;
            case 4:
                return at.records();
            default:
                return at.asks() ? at.countdown : 0;
        }
    }

    public void clear() {
        for (int i = 0; i < links.length; i++) {
            links[i].reset();
        }
        log.reset();
    }

    /**
     * Leaps from one tick on which something is due to the next, all links together, so that queries of
     * several links are sent in the order of their ticks. A leap is one tick or more, so that as many
     * turns as ticks are always enough.
     */
    private void runClocks(int many) {
        int left = many;
        for (int turn = 0; turn < many && left > 0; turn++) {
            int leap = left;
            for (int i = 0; i < links.length; i++) {
                leap = Math.min(leap, links[i].countdown);
            }
            log.now += leap;
            for (int i = 0; i < links.length; i++) {
                links[i].runClock(log, leap);
            }
            left -= leap;
        }
    }

    private Filter filterAt(int link, int group) {
        checkIndex(link, links.length);
        checkIndex(group, GROUPS);
        return links[link].filters[group];
    }

    private void checkPlace(int link, int group, int source) {
        checkIndex(link, links.length);
        checkIndex(group, GROUPS);
        checkIndex(source, SOURCES);
    }

    private static void checkIndex(int index, int many) {
        if (index < 0 || index >= many) {
            throw new IndexOutOfBoundsException("there is no such link, group, source, member or query");
        }
    }

    private static void checkNumber(int number, int least, int most) {
        if (number < least || number > most) {
            throw new IllegalArgumentException("a number is none that is told");
        }
    }

    private static boolean holds(int set, int source) {
        return (set >> source & 1) != 0;
    }

    /** A link: its settings, who asks there, the records of its groups, its members. */
    private static final class Link {
        private final int number;
        private final Filter[] filters = new Filter[GROUPS];
        private final Member[] members = new Member[MEMBERS];
        private int often;
        private int interval;
        private int delay;
        /** The least address heard since the router last asked; its own while it asks. */
        private int asker;
        /**
         * Ticks till the next general query while the router asks, else till it asks again: the two never
         * run at once, for the clock of the queries begins anew when the router asks again.
         */
        private int countdown;

        Link(int number) {
            this.number = number;
            for (int g = 0; g < GROUPS; g++) {
                filters[g] = new Filter();
            }
            for (int m = 0; m < MEMBERS; m++) {
                members[m] = new Member();
            }
            reset();
        }

        void reset() {
            for (int g = 0; g < GROUPS; g++) {
                filters[g].reset();
            }
            for (int m = 0; m < MEMBERS; m++) {
                members[m].reset();
            }
            asker = OWN_ADDRESS;
            set(2, 20, 4);
        }

        void set(int often, int interval, int delay) {
            this.often = often;
            this.interval = interval;
            this.delay = delay;
            if (asks()) {
                countdown = interval;
            }
        }

        int grace() {
            return often * interval + delay;
        }

        int last() {
            return often;
        }

        boolean asks() {
            return asker == OWN_ADDRESS;
        }

        int records() {
            int many = 0;
            for (int g = 0; g < GROUPS; g++) {
                if (filters[g].state() != NONE) {
                    many++;
                }
            }
            return many;
        }

        void yieldTo(int address) {
            asker = Math.min(asker, address);
            countdown = often * interval + delay / 2;
        }

        void ageFilters(int many) {
            for (int g = 0; g < GROUPS; g++) {
                filters[g].age(many);
            }
        }

        void runClock(QueryLog log, int many) {
            countdown -= many;
            if (countdown > 0) {
                return;
            }
            if (asks()) {
                log.add(number, NONE, 0);
            }
            asker = OWN_ADDRESS;
            countdown = interval;
        }

        void hearReport(QueryLog log, int group, int kind, int set) {
            switch (kind) {
                case EX:
                    filters[group].exclude(set, grace(), grace());
                    break;
                case TO_IN:
                    hearToIn(log, group, set);
                    break;
                case TO_EX:
                    hearToEx(log, group, set);
                    break;
                case BLOCK:
                    hearBlock(log, group, set);
                    break;
                default:
                    filters[group].allow(set, grace());
                    break;
            }
        }

        private void hearToIn(QueryLog log, int group, int set) {
            Filter filter = filters[group];
            int others = filter.running & ~set;
            filter.allow(set, grace());
            askSources(log, group, others);
            if (filter.excludes) {
                askGroup(log, group);
            }
        }

        private void hearToEx(QueryLog log, int group, int set) {
            Filter filter = filters[group];
            int doubted = filter.doubted(set);
            filter.exclude(set, filter.ownTimer, grace());
            askSources(log, group, doubted);
        }

        private void hearBlock(QueryLog log, int group, int set) {
            Filter filter = filters[group];
            int doubted = filter.doubted(set);
            filter.block(set);
            askSources(log, group, doubted);
        }

        private void askSources(QueryLog log, int group, int set) {
            if (set != 0 && asks()) {
                log.add(number, group, set);
                filters[group].lowerTimers(set, last());
            }
        }

        private void askGroup(QueryLog log, int group) {
            if (asks()) {
                log.add(number, group, 0);
                filters[group].lowerOwnTimer(last());
            }
        }

        void hearQuery(int group, int set) {
            if (set == 0) {
                filters[group].lowerOwnTimer(last());
            } else {
                filters[group].lowerTimers(set, last());
            }
        }

        void changeWish(QueryLog log, int member, int group, boolean excludes, int set) {
            Member who = members[member];
            int before = who.sets[group];
            boolean excluded = who.excludes[group];
            who.sets[group] = set;
            who.excludes[group] = excludes;
            if (excludes != excluded) {
                hearReport(log, group, excludes ? TO_EX : TO_IN, set);
                return;
            }
            int more = set & ~before;
            int fewer = before & ~set;
            int allowed = excludes ? fewer : more;
            int blocked = excludes ? more : fewer;
            if (allowed != 0) {
                hearReport(log, group, ALLOW, allowed);
            }
            if (blocked != 0) {
                hearReport(log, group, BLOCK, blocked);
            }
        }

        int letAnswer(QueryLog log, int member) {
            Member who = members[member];
            int many = 0;
            for (int g = 0; g < GROUPS; g++) {
                if (who.excludes[g] || who.sets[g] != 0) {
                    hearReport(log, g, who.excludes[g] ? EX : IN, who.sets[g]);
                    many++;
                }
            }
            return many;
        }

        boolean hasMemberFor(int group, int source) {
            for (int m = 0; m < MEMBERS; m++) {
                if (members[m].wants(group, source)) {
                    return true;
                }
            }
            return false;
        }
    }

    /** What a member of a link wants: for each group it includes a set, or excludes one. */
    private static final class Member {
        private final int[] sets = new int[GROUPS];
        private final boolean[] excludes = new boolean[GROUPS];

        void reset() {
            for (int g = 0; g < GROUPS; g++) {
                sets[g] = 0;
                excludes[g] = false;
            }
        }

        boolean wants(int group, int source) {
            return holds(sets[group], source) != excludes[group];
        }
    }

    /**
     * The record of a group of a link. One that includes none stands for no record. A source has a timer
     * above 0 just when it is running; nothing is stopped, and the own timer is 0, while it includes.
     */
    private static final class Filter {
        private final int[] timers = new int[SOURCES];
        private boolean excludes;
        /** A of a record that includes, X of one that excludes. */
        private int running;
        /** Y. */
        private int stopped;
        /** GT. */
        private int ownTimer;

        void reset() {
            setTimers(ALL_SOURCES, 0);
            running = 0;
            include();
        }

        int state() {
            if (excludes) {
                return 1;
            }
            return running == 0 ? NONE : 0;
        }

        boolean lets(int source) {
            return excludes ? !holds(stopped, source) : holds(running, source);
        }

        /** Of a set that is not wanted any more by one, what may be wanted by others and has to be asked for. */
        int doubted(int set) {
            return excludes ? set & ~stopped : set & running;
        }

        void allow(int set, int grace) {
            running |= set;
            stopped &= ~set;
            setTimers(set, grace);
        }

        /** What was in neither set of a record that excludes gets a timer; of one that includes, it is stopped. */
        void exclude(int set, int timerOfNew, int grace) {
            int fresh = excludes ? set & ~running & ~stopped : 0;
            int still = running & set;
            setTimers(running & ~set, 0);
            setTimers(fresh, timerOfNew);
            running = still | fresh;
            stopped = set & ~running;
            excludes = true;
            ownTimer = grace;
        }

        void block(int set) {
            if (excludes) {
                int fresh = set & ~running & ~stopped;
                running |= fresh;
                setTimers(fresh, ownTimer);
            }
        }

        /**
         * All the ticks at once: a source that was stopped before the own timer came to 0 is gone with it as
         * one is whose timer comes to 0 later, so that only what still runs in the end counts then.
         */
        void age(int many) {
            int ended = ageTimers(many);
            if (!excludes) {
                return;
            }
            if (ownTimer <= many) {
                include();
            } else {
                ownTimer -= many;
                stopped |= ended;
            }
        }

        private int ageTimers(int many) {
            int ended = 0;
            for (int s = 0; s < SOURCES; s++) {
                if (timers[s] > many) {
                    timers[s] -= many;
                } else if (timers[s] > 0) {
                    timers[s] = 0;
                    ended |= 1 << s;
                }
            }
            running &= ~ended;
            return ended;
        }

        private void include() {
            excludes = false;
            stopped = 0;
            ownTimer = 0;
        }

        private void setTimers(int set, int time) {
            for (int s = 0; s < SOURCES; s++) {
                if (holds(set, s)) {
                    timers[s] = time;
                }
            }
        }

        void lowerTimers(int set, int last) {
            for (int s = 0; s < SOURCES; s++) {
                if (holds(set, s)) {
                    timers[s] = Math.min(timers[s], last);
                }
            }
        }

        void lowerOwnTimer(int last) {
            ownTimer = Math.min(ownTimer, last);
        }
    }

    /**
     * The queries that were sent, the latest ones in rows that are used over and over; and the ticks so far.
     * A place is a floorMod, so that it is inside the rows even if the count wrapped round, long after the
     * calls that are promised.
     */
    private static final class QueryLog {
        private final int[] links = new int[KEPT_QUERIES];
        private final int[] groups = new int[KEPT_QUERIES];
        private final int[] sets = new int[KEPT_QUERIES];
        private final int[] ticks = new int[KEPT_QUERIES];
        private int count;
        private int now;

        void reset() {
            count = 0;
            now = 0;
        }

        void add(int link, int group, int set) {
            int at = Math.floorMod(count, KEPT_QUERIES);
            links[at] = link;
            groups[at] = group;
            sets[at] = set;
            ticks[at] = now;
            count++;
        }

        int look(int back, int what) {
            int at = Math.floorMod(count - 1 - back, KEPT_QUERIES);
            switch (what) {
                case 0:
                    return links[at];
                case 1:
                    return groups[at];
                case 2:
                    return sets[at];
                default:
                    return ticks[at];
            }
        }
    }
}
