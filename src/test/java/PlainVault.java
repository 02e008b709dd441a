import java.util.ArrayList;
import java.util.List;
import java.util.NoSuchElementException;
import java.util.TreeMap;
import java.util.TreeSet;

/**
 * The document once more, as slowly and plainly as it can be said: nothing is stored that can be
 * reckoned from the versions that are there or from the whole log.
 */
final class PlainVault {
    private static final class Thing {
        int key;
        boolean object;
        int size;
        int tag;
        int tier = -1;
        int put;
        int ceased;
        int until;
        boolean strict;
        TreeSet<Integer> holds = new TreeSet<>();
        TreeSet<Integer> readable = new TreeSet<>();
    }

    private record Rule(int tag, boolean current, int days, int action) {
    }

    private final TreeMap<Integer, Thing> there = new TreeMap<>();
    private final TreeMap<Integer, Rule> rules = new TreeMap<>();
    private final List<int[]> log = new ArrayList<>();
    private int day = 0;
    private int next = 0;

    long answer(String name, int... a) {
        switch (name) {
            case "put": return put(a[0], a[1], a[2]);
            case "mark": return mark(a[0]);
            case "erase": return erase(a[0], a[1] == 1);
            case "retain": return retain(a[0], a[1], a[2] == 1);
            case "hold": return hold(a[0], a[1], a[2] == 1);
            case "rule": return rule(a[0], a[1], a[2] == 1, a[3], a[4]);
            case "unrule": return unrule(a[0]);
            case "fetch": return fetch(a[0], a[1]);
            case "read": return read(a[0]);
            case "tick": return tick(a[0]);
            case "current": return current(a[0]);
            case "about": return about(a[0], a[1]);
            case "entry": return entry(a[0], a[1]);
            case "link": return link();
            case "figure": return figure(a[0]);
            default: throw new AssertionError(name);
        }
    }

    private void log(int kind, int number, int detail) {
        log.add(new int[] {day, kind, number, detail});
    }

    private Integer currentOf(int key) {
        Integer found = null;
        for (int number : there.keySet()) {
            if (there.get(number).key == key) {
                found = number;
            }
        }
        return found;
    }

    private boolean isCurrent(int number) {
        return currentOf(there.get(number).key) == number;
    }

    private int since(int number) {
        return isCurrent(number) ? there.get(number).put : there.get(number).ceased;
    }

    private boolean retained(Thing t) {
        return day < t.until;
    }

    private boolean guarded(Thing t) {
        return retained(t) || !t.holds.isEmpty();
    }

    private Thing any(int number) {
        if (!there.containsKey(number)) {
            throw new NoSuchElementException();
        }
        return there.get(number);
    }

    private Thing object(int number) {
        if (!any(number).object) {
            throw new NoSuchElementException();
        }
        return any(number);
    }

    private static void argument(boolean right) {
        if (!right) {
            throw new IllegalArgumentException();
        }
    }

    private static void state(boolean right) {
        if (!right) {
            throw new IllegalStateException();
        }
    }

    private Thing add(int key) {
        Integer before = currentOf(key);
        if (before != null) {
            there.get(before).ceased = day;
        }
        Thing t = new Thing();
        t.key = key;
        t.put = day;
        there.put(next++, t);
        return t;
    }

    private int put(int key, int size, int tag) {
        argument(size >= 1 && size <= 1000000 && tag >= 0 && tag <= 3);
        state(there.size() < 40);
        Thing t = add(key);
        t.object = true;
        t.size = size;
        t.tag = tag;
        t.tier = 0;
        log(1, next - 1, key);
        return next - 1;
    }

    private int mark(int key) {
        current(key);
        state(there.size() < 40);
        add(key);
        log(2, next - 1, key);
        return next - 1;
    }

    private int erase(int version, boolean force) {
        Thing t = any(version);
        state(t.holds.isEmpty());
        state(!(retained(t) && t.strict));
        state(force || !retained(t));
        there.remove(version);
        log(3, version, t.key);
        return t.key;
    }

    private int retain(int version, int days, boolean strict) {
        Thing t = object(version);
        argument(days >= 0 && days <= 10000);
        if (retained(t) && t.strict) {
            state(strict && day + days >= t.until);
        }
        t.until = day + days;
        t.strict = strict;
        log(5, version, t.until);
        return 0;
    }

    private int hold(int version, int hold, boolean on) {
        Thing t = object(version);
        argument(hold >= 0 && hold <= 7);
        boolean changed = on ? t.holds.add(hold) : t.holds.remove(hold);
        if (changed) {
            log(on ? 6 : 7, version, hold);
        }
        return changed ? 1 : 0;
    }

    private int rule(int rule, int tag, boolean current, int days, int action) {
        argument(rule >= 0 && rule <= 5 && tag >= -1 && tag <= 3);
        argument(days >= 0 && days <= 10000 && action >= 1 && action <= 4);
        rules.put(rule, new Rule(tag, current, days, action));
        log(9, rule, action);
        return 0;
    }

    private int unrule(int rule) {
        argument(rule >= 0 && rule <= 5);
        if (rules.remove(rule) == null) {
            return 0;
        }
        log(10, rule, 0);
        return 1;
    }

    private int fetch(int version, int days) {
        Thing t = object(version);
        argument(days >= 1 && days <= 100);
        state(t.tier == 2 || t.tier == 3);
        int from = t.tier == 2 ? day + 1 : day + 3;
        t.readable.clear();
        for (int i = 0; i < days; i++) {
            t.readable.add(from + i);
        }
        log(8, version, from);
        return from;
    }

    private int read(int version) {
        Thing t = object(version);
        state(t.tier < 2 || t.readable.contains(day));
        return t.size;
    }

    private int tick(int days) {
        argument(days >= 0 && days <= 1000);
        int before = log.size();
        for (int i = 0; i < days; i++) {
            day++;
            for (int number : new ArrayList<>(there.keySet())) {
                rulesFor(number);
            }
            for (int number : new ArrayList<>(there.keySet())) {
                Thing t = there.get(number);
                long same = there.values().stream().filter(o -> o.key == t.key).count();
                if (!t.object && same == 1) {
                    there.remove(number);
                    log(3, number, t.key);
                }
            }
        }
        return log.size() - before;
    }

    private void rulesFor(int number) {
        Thing t = there.get(number);
        if (!t.object) {
            return;
        }
        for (Rule r : rules.values()) {
            boolean due = (r.tag == -1 || r.tag == t.tag) && r.current == isCurrent(number)
                    && day >= since(number) + r.days;
            if (!due) {
                continue;
            }
            if (r.action < 4) {
                if (r.action > t.tier) {
                    t.tier = r.action;
                    log(4, number, t.tier);
                }
            } else if (isCurrent(number)) {
                if (there.size() < 40) {
                    add(t.key);
                    log(2, next - 1, t.key);
                    return;
                }
            } else if (!guarded(t)) {
                there.remove(number);
                log(3, number, t.key);
                return;
            }
        }
    }

    private int current(int key) {
        Integer number = currentOf(key);
        if (number == null || !there.get(number).object) {
            throw new NoSuchElementException();
        }
        return number;
    }

    private int about(int version, int what) {
        Thing t = any(version);
        argument(what >= 0 && what <= 7);
        int holds = t.holds.stream().mapToInt(h -> (int) Math.pow(2, h)).sum();
        int[] all = {t.key, t.size, t.tier, since(version), isCurrent(version) ? 1 : 0, t.until, holds,
            guarded(t) ? 1 : 0};
        return all[what];
    }

    private int entry(int k, int what) {
        argument(what >= 0 && what <= 3);
        if (k < 0 || k > 63 || k >= log.size()) {
            throw new IndexOutOfBoundsException();
        }
        return log.get(log.size() - 1 - k)[what];
    }

    private long link() {
        long link = 7;
        for (int[] entry : log) {
            for (int x : entry) {
                link = (link ^ x) * 1099511628211L;
            }
        }
        return link;
    }

    private int figure(int k) {
        argument(k >= 0 && k <= 5);
        int sizes = there.values().stream().mapToInt(t -> t.size).sum();
        int guarded = (int) there.values().stream().filter(this::guarded).count();
        return new int[] {day, there.size(), next, log.size(), sizes, guarded}[k];
    }
}
