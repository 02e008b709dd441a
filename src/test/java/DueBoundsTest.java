/** The Terms' boundary cases about when a rule is due, and for what. */
final class DueBoundsTest {
    public static void main(String[] args) {
        Checks.sentence("Terms: the present day is its since and the rule's days, or more", DueBoundsTest::days);
        Checks.sentence("Terms: DUE .. for its tag, (or any, -1)", DueBoundsTest::tags);
        Checks.sentence("Terms: DUE .. for what it is (current or not)", DueBoundsTest::currentOrNot);
        Checks.sentence("Terms: each of them is empty at first", DueBoundsTest::empty);
        Checks.sentence("Terms: one that is due with a tier colder than the object's", DueBoundsTest::colder);
        Checks.sentence("Terms: all rules are gone through by rising numbers", DueBoundsTest::risingRules);
        Checks.end();
    }

    /** Put on day 3; what the rules may do with it begins with day 4. */
    private static RetentionVault ruled(boolean current, int days) {
        RetentionVault v = new RetentionVault();
        v.tick(3);
        v.put(1, 1, 0);
        v.rule(0, 0, current, days, 1);
        return v;
    }

    private static void days() {
        int[] some = {1, 2, 7, 1000};
        for (int days : some) {
            if (days > 1) {
                Bounds.answers(() -> ruled(true, days), "a day before, " + days, 0, v -> v.tick(days - 1));
            }
            Bounds.answers(() -> ruled(true, days), "that day, " + days, 1, v -> v.tick(days));
            Bounds.answers(() -> ruled(true, days), "the day of the entry, " + days, 3 + days, v -> {
                v.tick(days);
                return v.entry(0, 0);
            });
        }
        Bounds.answers(() -> ruled(true, 0), "0 days: not before the next day begins", 0, v -> v.about(0, 2));
        Bounds.answers(() -> ruled(true, 0), "0 days: on the next day", 1, v -> v.tick(1));
        orMore();
        sinceOfAnOldOne();
        longest();
    }

    private static void orMore() {
        Bounds.answers(() -> ruled(false, 0), "a rule that comes long after its days", 1, v -> {
            v.tick(500);
            v.rule(1, -1, true, 2, 3);
            return v.tick(1);
        });
        Bounds.answers(() -> ruled(false, 0), "a rule that comes on the very day", 1, v -> {
            v.tick(5);
            v.rule(1, -1, true, 5, 3);
            return v.tick(1);
        });
    }

    private static void sinceOfAnOldOne() {
        for (int later = 1; later <= 4; later++) {
            int days = later;
            Bounds.answers(() -> ruled(false, 3), "an old one, " + days + " days since", days >= 3 ? 1 : 0, v -> {
                v.tick(10);
                v.put(1, 1, 0);
                return v.tick(days);
            });
        }
        Bounds.answers(() -> ruled(false, 3), "old, current, and old again: since the latest time", 0, v -> {
            v.mark(1);
            v.tick(2);
            v.erase(1, false);
            v.mark(1);
            return v.tick(2);
        });
        Bounds.answers(() -> ruled(true, 3), "current again: since it was put", 1, v -> {
            v.mark(1);
            v.tick(5);
            v.erase(1, false);
            return v.tick(1);
        });
    }

    private static void longest() {
        Bounds.answers(() -> ruled(true, 10000), "9999 days", 0, v -> RuleBoundsTest.ticked(v, 9999));
        Bounds.answers(() -> ruled(true, 10000), "10000 days", 1, v -> RuleBoundsTest.ticked(v, 10000));
    }

    private static void tags() {
        for (int tag = 0; tag <= 3; tag++) {
            for (int named = -1; named <= 3; named++) {
                int itsTag = tag;
                int ruleTag = named;
                Bounds.answers(RetentionVault::new, "tag " + tag + ", rule for " + named,
                        named == -1 || named == tag ? 2 : 0, v -> {
                            v.put(1, 1, itsTag);
                            v.put(1, 1, itsTag);
                            v.rule(0, ruleTag, true, 0, 1);
                            v.rule(1, ruleTag, false, 0, 1);
                            return v.tick(1);
                        });
            }
        }
    }

    private static void currentOrNot() {
        boolean[] both = {false, true};
        for (boolean forCurrent : both) {
            for (int action = 1; action <= 4; action++) {
                int what = action;
                int touched = forCurrent ? 1 : 0;
                RetentionVault v = oldAndCurrent();
                v.rule(0, -1, forCurrent, 0, what);
                Checks.due("entries", 1, () -> v.tick(1));
                Checks.due("which one", what == 4 && forCurrent ? 2 : touched, () -> v.entry(0, 2));
                Checks.due("which kind", what < 4 ? 4 : forCurrent ? 2 : 3, () -> v.entry(0, 1));
            }
        }
    }

    private static RetentionVault oldAndCurrent() {
        RetentionVault v = new RetentionVault();
        v.put(1, 1, 0);
        v.put(1, 1, 0);
        return v;
    }

    private static void empty() {
        Bounds.answers(DueBoundsTest::oldAndCurrent, "entries without rules", 0, v -> v.tick(1000));
        Bounds.answers(DueBoundsTest::oldAndCurrent, "entries with emptied rules", 0, v -> {
            for (int rule = 0; rule <= 5; rule++) {
                v.rule(rule, -1, rule % 2 == 0, 0, 1 + rule % 4);
                v.unrule(rule);
            }
            return v.tick(1000);
        });
    }

    private static void colder() {
        for (int from = 0; from <= 3; from++) {
            for (int to = 1; to <= 3; to++) {
                int tier = from;
                int action = to;
                Bounds.answers(() -> Scenes.inTier(tier), "entries, from " + from + " to " + to, to > from ? 1 : 0,
                        v -> {
                            v.rule(1, -1, true, 0, action);
                            v.unrule(0);
                            return v.tick(1);
                        });
                Bounds.answers(() -> Scenes.inTier(tier), "tier, from " + from + " to " + to, Math.max(from, to),
                        v -> {
                            v.rule(1, -1, true, 0, action);
                            v.tick(1);
                            return v.about(0, 2);
                        });
            }
        }
    }

    private static void risingRules() {
        RetentionVault v = Scenes.with(1);
        for (int rule = 5; rule >= 3; rule--) {
            v.rule(rule, -1, true, 0, rule - 2);
        }
        Checks.due("rules 3, 4 and 5, each colder", 3, () -> v.tick(1));
        for (int tier = 1; tier <= 3; tier++) {
            Checks.entryDue(v, 3 - tier, 1, 4, 0, tier);
        }
        Bounds.answers(() -> Scenes.with(1), "each warmer than the one before", 1, w -> {
            for (int rule = 0; rule <= 2; rule++) {
                w.rule(rule, -1, true, 0, 3 - rule);
            }
            return w.tick(1);
        });
    }
}
