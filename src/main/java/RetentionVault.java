import java.util.ArrayList;
import java.util.NoSuchElementException;

/**
 * Keeps objects in versions, for as long as they must be kept: versions are retained and held,
 * grow colder by rules, expire day by day, are fetched back from the cold; and every change
 * stands in a log whose links hang on all before.
 */
public final class RetentionVault {
    private static final int MOST_VERSIONS = 40;
    private static final int LARGEST_SIZE = 1000000;
    private static final int LAST_TAG = 3;
    private static final int ANY_TAG = -1;
    private static final int LAST_HOLD = 7;
    private static final int LAST_RULE = 5;
    private static final int LONGEST_TIME = 10000;
    private static final int LONGEST_FETCH = 100;
    private static final int LONGEST_TICK = 1000;

    private static final int MARKER_TIER = -1;
    private static final int FIRST_COLD_TIER = 2;
    private static final int COLDEST_TIER = 3;
    private static final int NO_ACTION = 0;
    private static final int EXPIRE = 4;

    private static final int OBJECT_PUT = 1;
    private static final int MARKER_PUT = 2;
    private static final int TAKEN_AWAY = 3;
    private static final int TIER_CHANGED = 4;
    private static final int RETAINED = 5;
    private static final int HELD = 6;
    private static final int RELEASED = 7;
    private static final int FETCHED = 8;
    private static final int RULE_SET = 9;
    private static final int RULE_EMPTIED = 10;

    /** Those that are there, by rising numbers. */
    private final ArrayList<Version> versions;
    private final Rule[] rules;
    private final Log log;
    private int day;
    private int everPut;

    public RetentionVault() {
        versions = new ArrayList<>();
        rules = new Rule[LAST_RULE + 1];
        for (int i = 0; i < rules.length; i++) {
            rules[i] = new Rule();
        }
        log = new Log();
    }

    public int put(int key, int size, int tag) throws IllegalArgumentException, IllegalStateException {
        demand(isWithin(size, 1, LARGEST_SIZE) && isWithin(tag, 0, LAST_TAG));
        demandRoom();
        Version object = new Version(everPut, key, day);
        object.makeObject(size, tag);
        return add(object);
    }

    public int mark(int key) throws NoSuchElementException, IllegalStateException {
        currentObject(key);
        demandRoom();
        return add(new Version(everPut, key, day));
    }

    public int erase(int version, boolean force) throws NoSuchElementException, IllegalStateException {
        Version v = versionNumbered(version);
        boolean forced = force && !v.isRetainedStrictly(day);
        if (v.isHeld() || v.isRetained(day) && !forced) {
            throw new IllegalStateException("the version is guarded");
        }
        takeAway(v);
        return v.key;
    }

    public void retain(int version, int days, boolean strict)
            throws NoSuchElementException, IllegalArgumentException, IllegalStateException {
        Version v = objectNumbered(version);
        demand(isWithin(days, 0, LONGEST_TIME));
        int until = day + days;
        if (v.isRetainedStrictly(day) && (!strict || until < v.retainedUntil)) {
            throw new IllegalStateException("strict retention cannot be weakened");
        }
        v.retainedUntil = until;
        v.strict = strict;
        log.write(day, RETAINED, v.number, until);
    }

    public boolean hold(int version, int hold, boolean on)
            throws NoSuchElementException, IllegalArgumentException {
        Version v = objectNumbered(version);
        demand(isWithin(hold, 0, LAST_HOLD));
        int bit = 1 << hold;
        boolean wasOn = (v.holds & bit) != 0;
        if (wasOn == on) {
            return false;
        }
        v.holds ^= bit;
        log.write(day, on ? HELD : RELEASED, v.number, hold);
        return true;
    }

    public void rule(int rule, int tag, boolean current, int days, int action)
            throws IllegalArgumentException {
        demand(isWithin(rule, 0, LAST_RULE) && isWithin(tag, ANY_TAG, LAST_TAG));
        demand(isWithin(days, 0, LONGEST_TIME) && isWithin(action, 1, EXPIRE));
        rules[rule].become(tag, current, days, action);
        log.write(day, RULE_SET, rule, action);
    }

    public boolean unrule(int rule) throws IllegalArgumentException {
        demand(isWithin(rule, 0, LAST_RULE));
        Rule r = rules[rule];
        if (r.isEmpty()) {
            return false;
        }
        r.action = NO_ACTION;
        log.write(day, RULE_EMPTIED, rule, 0);
        return true;
    }

    public int fetch(int version, int days)
            throws NoSuchElementException, IllegalArgumentException, IllegalStateException {
        Version v = objectNumbered(version);
        demand(isWithin(days, 1, LONGEST_FETCH));
        if (!v.isCold()) {
            throw new IllegalStateException("the object is not cold");
        }
        v.readableFrom = day + (v.tier == COLDEST_TIER ? 3 : 1);
        v.readableBefore = v.readableFrom + days;
        log.write(day, FETCHED, v.number, v.readableFrom);
        return v.readableFrom;
    }

    public int read(int version) throws NoSuchElementException, IllegalStateException {
        Version v = objectNumbered(version);
        if (v.isCold() && !v.isFetchedFor(day)) {
            throw new IllegalStateException("the object is cold and not fetched for this day");
        }
        return v.size;
    }

    public int tick(int days) throws IllegalArgumentException {
        demand(isWithin(days, 0, LONGEST_TICK));
        int before = log.written;
        for (int i = 0; i < days; i++) {
            day++;
            goThroughVersions();
            takeLoneMarkersAway();
        }
        return log.written - before;
    }

    public int current(int key) throws NoSuchElementException {
        return currentObject(key).number;
    }

    public int about(int version, int what) throws NoSuchElementException, IllegalArgumentException {
        Version v = versionNumbered(version);
        switch (what) {
            case 0: return v.key;
            case 1: return v.size;
            case 2: return v.tier;
            case 3: return v.since();
            case 4: return v.isCurrent ? 1 : 0;
            case 5: return v.retainedUntil;
            case 6: return v.holds;
            case 7: return v.isGuarded(day) ? 1 : 0;
            default: throw new IllegalArgumentException("what is not 0 .. 7");
        }
    }

    public int entry(int k, int what) throws IllegalArgumentException, IndexOutOfBoundsException {
        demand(isWithin(what, 0, Log.WIDTH - 1));
        if (!log.keeps(k)) {
            throw new IndexOutOfBoundsException("there is no such entry, or none any more");
        }
        return log.numberOf(k, what);
    }

    public long link() {
        return log.chain;
    }

    public int figure(int k) throws IllegalArgumentException {
        switch (k) {
            case 0: return day;
            case 1: return versions.size();
            case 2: return everPut;
            case 3: return log.written;
            case 4: return sumOfSizes();
            case 5: return countOfGuarded();
            default: throw new IllegalArgumentException("k is not 0 .. 5");
        }
    }

    private static boolean isWithin(int x, int least, int most) {
        return least <= x && x <= most;
    }

    private static void demand(boolean right) {
        if (!right) {
            throw new IllegalArgumentException("an argument is out of its range");
        }
    }

    private void demandRoom() {
        if (isFull()) {
            throw new IllegalStateException("there are 40 versions");
        }
    }

    private boolean isFull() {
        return versions.size() >= MOST_VERSIONS;
    }

    private Version versionNumbered(int number) {
        for (int i = 0; i < versions.size(); i++) {
            Version v = versions.get(i);
            if (v.number == number) {
                return v;
            }
        }
        throw new NoSuchElementException("there is no version with this number");
    }

    private Version objectNumbered(int number) {
        Version v = versionNumbered(number);
        if (v.isMarker()) {
            throw new NoSuchElementException("the version is a marker");
        }
        return v;
    }

    private Version currentObject(int key) {
        Version v = latestOf(key);
        if (v == null || v.isMarker()) {
            throw new NoSuchElementException("the key has no current object");
        }
        return v;
    }

    /** The version of a key with the greatest number, or null if the key has none. */
    private Version latestOf(int key) {
        for (int i = versions.size() - 1; i >= 0; i--) {
            Version v = versions.get(i);
            if (v.key == key) {
                return v;
            }
        }
        return null;
    }

    private int add(Version v) {
        Version older = latestOf(v.key);
        if (older != null) {
            older.isCurrent = false;
            older.ceasedDay = day;
        }
        versions.add(v);
        everPut++;
        log.write(day, v.isMarker() ? MARKER_PUT : OBJECT_PUT, v.number, v.key);
        return v.number;
    }

    private void takeAway(Version v) {
        for (int i = 0; i < versions.size(); i++) {
            if (versions.get(i) == v) {
                versions.remove(i);
                break;
            }
        }
        Version latest = latestOf(v.key);
        if (latest != null) {
            latest.isCurrent = true;
        }
        log.write(day, TAKEN_AWAY, v.number, v.key);
    }

    private void goThroughVersions() {
        int at = 0;
        // A version taken away leaves its place to the next one, and new markers stand behind
        // all others: so the count from the beginning of the day reaches each version once.
        for (int left = versions.size(); left > 0 && at < versions.size(); left--) {
            Version v = versions.get(at);
            if (!v.isMarker()) {
                goThroughRules(v);
            }
            if (at < versions.size() && versions.get(at) == v) {
                at++;
            }
        }
    }

    private void goThroughRules(Version object) {
        for (int i = 0; i < rules.length; i++) {
            Rule r = rules[i];
            if (!r.isDue(object, day)) {
                continue;
            }
            if (r.action != EXPIRE) {
                cool(object, r.action);
            } else if (expire(object)) {
                return;
            }
        }
    }

    private void cool(Version object, int tier) {
        if (tier > object.tier) {
            object.tier = tier;
            log.write(day, TIER_CHANGED, object.number, tier);
        }
    }

    /** Whether it did anything: a full vault or a guard may be in the way. */
    private boolean expire(Version object) {
        if (object.isCurrent ? isFull() : object.isGuarded(day)) {
            return false;
        }
        if (object.isCurrent) {
            add(new Version(everPut, object.key, day));
        } else {
            takeAway(object);
        }
        return true;
    }

    private void takeLoneMarkersAway() {
        int at = 0;
        for (int left = versions.size(); left > 0 && at < versions.size(); left--) {
            Version v = versions.get(at);
            if (v.isMarker() && isAlone(v)) {
                takeAway(v);
            } else {
                at++;
            }
        }
    }

    private boolean isAlone(Version v) {
        for (int i = 0; i < versions.size(); i++) {
            Version other = versions.get(i);
            if (other != v && other.key == v.key) {
                return false;
            }
        }
        return true;
    }

    private int sumOfSizes() {
        int sum = 0;
        for (int i = 0; i < versions.size(); i++) {
            sum += versions.get(i).size;
        }
        return sum;
    }

    private int countOfGuarded() {
        int count = 0;
        for (int i = 0; i < versions.size(); i++) {
            if (versions.get(i).isGuarded(day)) {
                count++;
            }
        }
        return count;
    }

    /** An object or a marker; a new one is a marker, and the current one of its key. */
    private static final class Version {
        final int number;
        final int key;
        final int putDay;
        int size;
        int tag;
        int tier;
        boolean isCurrent;
        int ceasedDay;
        int retainedUntil;
        boolean strict;
        int holds;
        int readableFrom;
        int readableBefore;

        Version(int number, int key, int putDay) {
            this.number = number;
            this.key = key;
            this.putDay = putDay;
            tier = MARKER_TIER;
            isCurrent = true;
        }

        void makeObject(int itsSize, int itsTag) {
            size = itsSize;
            tag = itsTag;
            tier = 0;
        }

        boolean isMarker() {
            return tier == MARKER_TIER;
        }

        boolean isCold() {
            return tier >= FIRST_COLD_TIER;
        }

        int since() {
            return isCurrent ? putDay : ceasedDay;
        }

        boolean isHeld() {
            return holds != 0;
        }

        boolean isRetained(int today) {
            return today < retainedUntil;
        }

        boolean isRetainedStrictly(int today) {
            return strict && isRetained(today);
        }

        boolean isGuarded(int today) {
            return isHeld() || isRetained(today);
        }

        boolean isFetchedFor(int today) {
            return readableFrom <= today && today < readableBefore;
        }
    }

    /** Empty as long as it has no action. */
    private static final class Rule {
        int tag;
        boolean forCurrent;
        int days;
        int action;

        void become(int itsTag, boolean isForCurrent, int itsDays, int itsAction) {
            tag = itsTag;
            forCurrent = isForCurrent;
            days = itsDays;
            action = itsAction;
        }

        boolean isEmpty() {
            return action == NO_ACTION;
        }

        boolean isDue(Version object, int today) {
            return !isEmpty()
                    && (tag == ANY_TAG || tag == object.tag)
                    && forCurrent == object.isCurrent
                    && today >= object.since() + days;
        }
    }

    /** Keeps the latest entries in a ring; the older ones live on in the chain alone. */
    private static final class Log {
        static final int WIDTH = 4;
        /** A power of two, so that a mask of any int is a place in the ring. */
        private static final int KEPT = 64;
        private static final long FIRST_LINK = 7L;
        private static final long FACTOR = 1099511628211L;

        private final int[] ring = new int[KEPT * WIDTH];
        int written;
        long chain = FIRST_LINK;

        void write(int today, int kind, int number, int detail) {
            int at = placeOf(written);
            append(at, today);
            append(at + 1, kind);
            append(at + 2, number);
            append(at + 3, detail);
            written++;
        }

        boolean keeps(int back) {
            return 0 <= back && back < KEPT && back < written;
        }

        int numberOf(int back, int what) {
            return ring[placeOf(written - 1 - back) + what];
        }

        private void append(int at, int x) {
            ring[at] = x;
            chain = (chain ^ x) * FACTOR;
        }

        private static int placeOf(int entry) {
            return (entry & (KEPT - 1)) * WIDTH;
        }
    }
}
