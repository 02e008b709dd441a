/** Vaults in a known state, made anew for each check. */
final class Scenes {
    /** The versions of the busy vault, on day 1: the one numbered n has size 100 + n. */
    static final int WARM = 0;
    static final int COOL = 1;
    static final int COLD = 2;
    static final int COLDEST = 3;
    /** In tier 2, to be read on the days 2, 3 and 4. */
    static final int FETCHED = 4;
    /** Until day 3, not strictly. */
    static final int RETAINED = 5;
    /** Until day 5. */
    static final int STRICT = 6;
    /** By the holds 0 and 7. */
    static final int HELD = 7;
    static final int GONE = 8;
    static final int BELOW_MARKER = 9;
    static final int BELOW_OLD_MARKER = 10;
    static final int MARKER = 11;
    static final int OLD_MARKER = 12;
    static final int ABOVE_OLD_MARKER = 13;
    /** The only version of its key: the next day takes it away. */
    static final int LONE_MARKER = 14;
    static final int NEXT = 15;

    /** The number that the busy vault's next version has when that vault has been filled. */
    static final int NEXT_IN_FULL = 41;

    static final int KEY_OF_WARM = 10;
    static final int KEY_OF_MARKER = 19;
    static final int KEY_OF_LONE_MARKER = 18;
    static final int UNKNOWN_KEY = 99;

    /** The rules 0 to 4 are set. */
    static final int EMPTY_RULE = 5;

    private Scenes() {
    }

    static RetentionVault busy() {
        RetentionVault v = new RetentionVault();
        int[] tags = {0, 1, 2, 3, 2, 0, 0, 0, 0, 0, 0};
        for (int i = 0; i < tags.length; i++) {
            v.put(10 + i, 100 + i, tags[i]);
        }
        for (int tier = 1; tier <= 3; tier++) {
            v.rule(tier - 1, tier, true, 0, tier);
        }
        v.tick(1);
        v.mark(KEY_OF_MARKER);
        v.mark(20);
        v.put(20, 113, 0);
        v.mark(KEY_OF_LONE_MARKER);
        v.erase(GONE, false);
        v.rule(3, -1, true, 3, 4);
        v.rule(4, -1, false, 2, 4);
        v.retain(RETAINED, 2, false);
        v.retain(STRICT, 4, true);
        v.hold(HELD, 0, true);
        v.hold(HELD, 7, true);
        v.fetch(FETCHED, 3);
        return v;
    }

    /** The busy vault without the rules by which its versions expire, on this day. */
    static RetentionVault quiet(int day) {
        RetentionVault v = busy();
        v.unrule(3);
        v.unrule(4);
        v.tick(day - 1);
        return v;
    }

    /** The busy vault, filled up to 40 versions by objects of new keys. */
    static RetentionVault full() {
        RetentionVault v = busy();
        for (int number = NEXT; number < NEXT_IN_FULL; number++) {
            v.put(100 + number, 1, 0);
        }
        return v;
    }

    /** A vault with so many objects, each of its own key (its number), size 1 and tag 0. */
    static RetentionVault with(int objects) {
        RetentionVault v = new RetentionVault();
        for (int i = 0; i < objects; i++) {
            v.put(i, 1, 0);
        }
        return v;
    }

    /** An object of size 77 that the first day brought into this tier; that day is the present one. */
    static RetentionVault inTier(int tier) {
        RetentionVault v = new RetentionVault();
        v.put(1, 77, 0);
        if (tier > 0) {
            v.rule(0, -1, true, 0, tier);
        }
        v.tick(1);
        return v;
    }
}
