/** Promise 11: tick, and what happens when a day begins. */
final class TickTest {
    public static void main(String[] args) {
        days();
        coolingByRisingRules();
        nothingGrowsWarmer();
        expiryOfACurrentObject();
        expiryEndsTheRules();
        guardsKeepOldOnes();
        guardedCurrentOnesGetAMarker();
        fullVault();
        fallenBackToCurrent();
        loneMarkers();
        twoMarkersOfOneKey();
        Checks.end();
    }

    private static void days() {
        RetentionVault v = new RetentionVault();
        Checks.due("tick(0)", 0, () -> v.tick(0));
        Checks.due("day", 0, () -> v.figure(0));
        Checks.due("tick(1000)", 0, () -> v.tick(1000));
        Checks.due("day", 1000, () -> v.figure(0));
        v.put(1, 1, 0);
        v.rule(0, -1, true, 0, 1);
        Checks.due("no day begins, no rule is looked at", 0, () -> v.tick(0));
    }

    private static void coolingByRisingRules() {
        RetentionVault v = new RetentionVault();
        v.put(1, 1, 0);
        v.rule(1, -1, true, 2, 2);
        v.rule(3, 0, true, 2, 1);
        v.rule(5, 0, true, 2, 3);
        Checks.due("tick(1)", 0, () -> v.tick(1));
        Checks.due("tick(1)", 2, () -> v.tick(1));
        Checks.entryDue(v, 1, 2, 4, 0, 2);
        Checks.entryDue(v, 0, 2, 4, 0, 3);
    }

    private static void nothingGrowsWarmer() {
        RetentionVault v = new RetentionVault();
        v.put(1, 1, 0);
        v.rule(0, -1, true, 0, 2);
        v.tick(1);
        v.rule(0, -1, true, 0, 1);
        v.rule(1, -1, true, 0, 2);
        Checks.due("tick(5)", 0, () -> v.tick(5));
        Checks.due("tier", 2, () -> v.about(0, 2));
    }

    private static void expiryOfACurrentObject() {
        RetentionVault v = new RetentionVault();
        v.put(8, 1, 0);
        v.rule(0, -1, true, 3, 4);
        v.rule(1, -1, false, 2, 4);
        Checks.due("days 1 and 2", 0, () -> v.tick(2));
        Checks.due("day 3", 1, () -> v.tick(1));
        Checks.entryDue(v, 0, 3, 2, 1, 8);
        Checks.due("since", 3, () -> v.about(0, 3));
        Checks.due("day 4", 0, () -> v.tick(1));
        Checks.due("day 5", 2, () -> v.tick(1));
        Checks.entryDue(v, 1, 5, 3, 0, 8);
        Checks.entryDue(v, 0, 5, 3, 1, 8);
        Checks.due("versions", 0, () -> v.figure(1));
        Checks.due("put in all", 2, () -> v.figure(2));
    }

    private static void expiryEndsTheRules() {
        RetentionVault v = new RetentionVault();
        v.put(8, 1, 0);
        v.rule(0, -1, true, 0, 1);
        v.rule(1, -1, true, 0, 4);
        v.rule(2, -1, false, 0, 2);
        v.rule(3, -1, false, 0, 4);
        v.rule(4, -1, false, 0, 3);
        Checks.due("a marker, no further rule", 2, () -> v.tick(1));
        Checks.due("tier", 1, () -> v.about(0, 2));
        Checks.due("cooler, away, marker away", 3, () -> v.tick(1));
        Checks.entryDue(v, 2, 2, 4, 0, 2);
        Checks.entryDue(v, 1, 2, 3, 0, 8);
        Checks.entryDue(v, 0, 2, 3, 1, 8);
    }

    private static void guardsKeepOldOnes() {
        RetentionVault v = new RetentionVault();
        for (int i = 0; i < 4; i++) {
            v.put(8, 1, 0);
        }
        v.retain(0, 3, false);
        v.hold(1, 6, true);
        v.rule(0, -1, false, 0, 4);
        v.rule(1, -1, false, 0, 3);
        Checks.due("one away, two colder", 3, () -> v.tick(1));
        Checks.missing(v, "about(2, 0)", () -> v.about(2, 0));
        Checks.due("a rule behind one that did nothing", 3, () -> v.about(0, 2));
        Checks.due("still retained", 0, () -> v.tick(1));
        Checks.due("retained no more", 1, () -> v.tick(1));
        Checks.entryDue(v, 0, 3, 3, 0, 8);
        v.hold(1, 6, false);
        Checks.due("held no more", 1, () -> v.tick(1));
        Checks.due("the current one stays", 3, () -> v.current(8));
    }

    private static void guardedCurrentOnesGetAMarker() {
        RetentionVault v = new RetentionVault();
        v.put(8, 1, 0);
        v.retain(0, 10, true);
        v.hold(0, 1, true);
        v.rule(0, -1, true, 0, 4);
        Checks.due("tick(1)", 1, () -> v.tick(1));
        Checks.entryDue(v, 0, 1, 2, 1, 8);
        Checks.due("it is no more current, so once only", 0, () -> v.tick(5));
    }

    private static void fullVault() {
        RetentionVault v = new RetentionVault();
        for (int i = 0; i < 39; i++) {
            v.put(i, 1, i == 5 || i == 7 ? 1 : 0);
        }
        v.rule(0, 1, true, 0, 4);
        v.rule(1, 1, true, 0, 1);
        Checks.due("room for one marker", 2, () -> v.tick(1));
        Checks.entryDue(v, 1, 1, 2, 39, 5);
        Checks.entryDue(v, 0, 1, 4, 7, 1);
        Checks.due("no room", 0, () -> v.tick(1));
        v.erase(0, false);
        Checks.due("room again", 1, () -> v.tick(1));
        Checks.entryDue(v, 0, 3, 2, 40, 7);
    }

    private static void fallenBackToCurrent() {
        RetentionVault v = new RetentionVault();
        v.put(1, 1, 0);
        v.tick(4);
        v.mark(1);
        v.rule(0, -1, true, 10, 1);
        v.rule(1, -1, false, 10, 2);
        v.tick(1);
        v.erase(1, false);
        Checks.due("days 6 to 9", 0, () -> v.tick(4));
        Checks.due("day 10: ten days from its put", 1, () -> v.tick(1));
        Checks.due("tier", 1, () -> v.about(0, 2));
    }

    private static void loneMarkers() {
        RetentionVault v = new RetentionVault();
        v.put(3, 1, 0);
        v.put(2, 1, 0);
        v.mark(3);
        v.mark(2);
        Checks.due("markers above objects stay", 0, () -> v.tick(10));
        v.erase(0, false);
        v.erase(1, false);
        Checks.due("they stay until a day begins", 2, () -> v.figure(1));
        Checks.due("tick(1)", 2, () -> v.tick(1));
        Checks.entryDue(v, 1, 11, 3, 2, 3);
        Checks.entryDue(v, 0, 11, 3, 3, 2);
    }

    private static void twoMarkersOfOneKey() {
        RetentionVault v = new RetentionVault();
        v.put(3, 1, 0);
        v.mark(3);
        v.put(3, 1, 0);
        v.mark(3);
        v.erase(0, false);
        v.erase(2, false);
        Checks.due("neither is the only version", 0, () -> v.tick(3));
        v.erase(3, false);
        Checks.due("the other one is then", 1, () -> v.tick(1));
        Checks.entryDue(v, 0, 4, 3, 1, 3);
    }
}
