import java.util.ArrayDeque;
import java.util.ArrayList;
import java.util.Comparator;
import java.util.HashSet;
import java.util.List;
import java.util.Set;

/**
 * The document once more, written in another way (lists, whole copies, text-book loops), as an
 * oracle for long runs. It answers numbers; an exception is one of the answers below.
 */
final class Model {
    static final long INDEX = Long.MIN_VALUE + 1;
    static final long ARGUMENT = Long.MIN_VALUE + 2;
    static final long STATE = Long.MIN_VALUE + 3;

    static final class Sensor {
        int room, kind, threshold, delay, weight, fault, count;

        boolean votes() {
            return fault == 2 || (fault == 0 && count > delay);
        }

        Sensor copy() {
            Sensor s = new Sensor();
            s.room = room;
            s.kind = kind;
            s.threshold = threshold;
            s.delay = delay;
            s.weight = weight;
            s.fault = fault;
            s.count = count;
            return s;
        }
    }

    record Rule(int kind, int room, int limit, int opening) {}

    record Event(int minute, int kind, int a, int b) {}

    static final class All {
        int rooms = 2, fuel, opening = 8, target = 8, warmth, wind, quorum = 2, hold = 3, t;
        boolean jammed;
        long[] smoke = new long[4];
        int[] rest = new int[4];
        int[] muting = new int[4];
        Set<String> open = new HashSet<>();
        List<Sensor> sensors = new ArrayList<>();
        List<Rule> rules = new ArrayList<>();
        List<Event> events = new ArrayList<>();
        long[] told = new long[6];

        All copy() {
            All c = new All();
            c.rooms = rooms;
            c.fuel = fuel;
            c.opening = opening;
            c.target = target;
            c.warmth = warmth;
            c.wind = wind;
            c.quorum = quorum;
            c.hold = hold;
            c.t = t;
            c.jammed = jammed;
            c.smoke = smoke.clone();
            c.rest = rest.clone();
            c.muting = muting.clone();
            c.open = new HashSet<>(open);
            for (Sensor s : sensors) {
                c.sensors.add(s.copy());
            }
            c.rules = new ArrayList<>(rules);
            c.events = new ArrayList<>(events);
            c.told = told.clone();
            return c;
        }

        static String door(int a, int b) {
            return Math.min(a, b) + "-" + Math.max(a, b);
        }

        boolean isOpen(int a, int b) {
            return open.contains(door(a, b));
        }

        void toggle(int a, int b) {
            if (!open.remove(door(a, b))) {
                open.add(door(a, b));
            }
        }

        int strength() {
            return fuel > 0 ? 1 + fuel / 25 : 0;
        }

        int draft() {
            int d = warmth * opening / 8 - wind;
            return d >= 0 ? d : 0;
        }

        boolean excited(Sensor s) {
            if (s.kind == 0) {
                return smoke[s.room] >= s.threshold;
            }
            if (s.kind == 1) {
                return strength() > 0 && draft() < s.threshold;
            }
            return warmth >= s.threshold;
        }

        int votingMask(int room) {
            int mask = 0;
            for (int i = 0; i < sensors.size(); i++) {
                if (sensors.get(i).room == room && sensors.get(i).votes()) {
                    mask += 1 << i;
                }
            }
            return mask;
        }

        int votingWeight(int room) {
            return sensors.stream().filter(s -> s.room == room && s.votes()).mapToInt(s -> s.weight).sum();
        }

        boolean agreed(int room) {
            long voters = sensors.stream().filter(s -> s.room == room && s.votes()).count();
            return voters >= 2 && votingWeight(room) >= quorum;
        }

        boolean alarm(int room) {
            return rest[room] > 0 && muting[room] == 0;
        }

        boolean applies(Rule r) {
            if (r.kind() == 0) {
                return smoke[r.room()] >= r.limit();
            }
            if (r.kind() == 1) {
                return draft() < r.limit();
            }
            if (r.kind() == 2) {
                return alarm(r.room());
            }
            return strength() <= r.limit();
        }

        int applying() {
            for (int i = 0; i < rules.size(); i++) {
                if (applies(rules.get(i))) {
                    return i;
                }
            }
            return -1;
        }

        void come(Event e) {
            told[2]++;
            if (e.kind() == 0) {
                toggle(e.a(), e.b());
            } else if (e.kind() == 1) {
                fuel = fuel + e.a() > 200 ? 200 : fuel + e.a();
            } else if (e.kind() == 2) {
                wind = e.a();
            } else if (e.kind() == 3) {
                sensors.get(e.a()).fault = e.b();
            } else {
                jammed = !jammed;
            }
        }

        int minute() {
            t++;
            boolean[] had = new boolean[4];
            for (int r = 0; r < rooms; r++) {
                had[r] = alarm(r);
            }
            while (!events.isEmpty() && events.get(0).minute() == t) {
                come(events.remove(0));
            }
            int strength = strength();
            if (strength != 0) {
                fuel -= 1 + opening / 2;
                if (fuel < 0) {
                    fuel = 0;
                }
            }
            warmth = warmth + 6 * strength - warmth / 8;
            if (warmth > 999) {
                warmth = 999;
            }
            long made = 40L * strength;
            long up = 2L * draft() < made ? 2L * draft() : made;
            smoke[0] += made - up;
            long too = draft() / 2 < smoke[0] ? draft() / 2 : smoke[0];
            smoke[0] -= too;
            told[3] += up + too;
            doors();
            for (Sensor s : sensors) {
                s.count = excited(s) ? (s.count == 99 ? 99 : s.count + 1) : 0;
            }
            boolean some = false;
            for (int r = 0; r < rooms; r++) {
                if (muting[r] > 0) {
                    muting[r]--;
                }
                if (agreed(r)) {
                    some = true;
                    rest[r] = hold + 1;
                } else if (rest[r] > 0) {
                    rest[r]--;
                }
            }
            int rule = applying();
            if (rule >= 0) {
                target = rules.get(rule).opening();
            }
            if (!jammed && opening != target) {
                opening = opening < target ? opening + 1 : opening - 1;
                told[1]++;
            }
            int began = 0;
            for (int r = 0; r < rooms; r++) {
                if (alarm(r) && !had[r]) {
                    began++;
                }
            }
            told[0] += began;
            told[5] += some ? 1 : 0;
            return began;
        }

        void doors() {
            long[] before = smoke.clone();
            for (int a = 0; a < rooms; a++) {
                for (int b = a + 1; b <= rooms; b++) {
                    if (!isOpen(a, b)) {
                        continue;
                    }
                    if (b == rooms) {
                        smoke[a] -= before[a] / 4;
                        told[4] += before[a] / 4;
                    } else {
                        long flow = (before[a] - before[b]) / 4;
                        smoke[a] -= flow;
                        smoke[b] += flow;
                    }
                }
            }
            for (int a = 0; a < rooms; a++) {
                if (smoke[a] > 99999) {
                    smoke[a] = 99999;
                }
                if (smoke[a] < 0) {
                    throw new AssertionError("smoke fell below 0");
                }
            }
        }
    }

    All now = new All();
    final ArrayDeque<All> records = new ArrayDeque<>();

    private void keep() {
        records.addLast(now.copy());
        if (records.size() > 4) {
            records.removeFirst();
        }
    }

    private boolean room(int r) {
        return r >= 0 && r < now.rooms;
    }

    private static boolean in(int v, int a, int b) {
        return a <= v && v <= b;
    }

    /** Calls a method of the face by its name. */
    long call(String name, int... x) {
        switch (name) {
            case "begin":
                return begin(x[0]);
            case "setDoor":
                return setDoor(x[0], x[1], x[2] != 0);
            case "isOpen":
                return !in(x[0], 0, now.rooms) || !in(x[1], 0, now.rooms) ? INDEX
                        : x[0] != x[1] && now.isOpen(x[0], x[1]) ? 1 : 0;
            case "addFuel":
                return addFuel(x[0]);
            case "setTarget":
                return setTarget(x[0]);
            case "set":
                return set(x[0], x[1]);
            case "setSmoke":
                return setSmoke(x[0], x[1]);
            case "info":
                return in(x[0], 0, 14) ? info(x[0]) : ARGUMENT;
            case "room":
                return !room(x[0]) ? INDEX : in(x[1], 0, 6) ? room(x[0], x[1]) : ARGUMENT;
            case "addSensor":
                return addSensor(x[0], x[1], x[2], x[3], x[4]);
            case "setFault":
                return setFault(x[0], x[1]);
            case "sensor":
                return !in(x[0], 0, now.sensors.size() - 1) ? INDEX
                        : in(x[1], 0, 8) ? sensor(x[0], x[1]) : ARGUMENT;
            case "addRule":
                return addRule(x[0], x[1], x[2], x[3]);
            case "removeRule":
                return removeRule(x[0]);
            case "applying":
                return now.applying();
            case "addEvent":
                return addEvent(x[0], x[1], x[2], x[3]);
            case "event":
                return !in(x[1], 0, 3) ? ARGUMENT : in(x[0], 0, now.events.size() - 1) ? event(x[0], x[1]) : -1;
            case "mute":
                return mute(x[0], x[1]);
            case "pass":
                return pass(x[0]);
            case "told":
                return in(x[0], 0, 5) ? now.told[x[0]] : ARGUMENT;
            case "alarmIn":
                return !room(x[0]) ? INDEX : in(x[1], 1, 200) ? alarmIn(x[0], x[1]) : ARGUMENT;
            case "smokeAfter":
                return !room(x[0]) ? INDEX : in(x[1], 1, 200) ? smokeAfter(x[0], x[1]) : ARGUMENT;
            case "peak":
                return !room(x[0]) ? INDEX
                        : in(x[1], 0, 8) && in(x[2], 1, 200) ? peak(x[0], x[1], x[2]) : ARGUMENT;
            case "bestOpening":
                return in(x[0], 1, 200) ? bestOpening(x[0]) : ARGUMENT;
            case "neededSensors":
                return !room(x[0]) ? INDEX : in(x[1], 1, 200) ? neededSensors(x[0], x[1]) : ARGUMENT;
            case "burnsFor":
                return in(x[0], 1, 200) ? burnsFor(x[0]) : ARGUMENT;
            case "undo":
                return undo();
            case "checksum":
                return checksum();
            default:
                throw new AssertionError(name);
        }
    }

    private long begin(int rooms) {
        if (!in(rooms, 1, 4)) {
            return ARGUMENT;
        }
        keep();
        long before = now.rooms;
        now = new All();
        now.rooms = rooms;
        return before;
    }

    private long setDoor(int one, int other, boolean open) {
        if (!in(one, 0, now.rooms) || !in(other, 0, now.rooms)) {
            return INDEX;
        }
        if (one == other) {
            return ARGUMENT;
        }
        keep();
        boolean before = now.isOpen(one, other);
        if (before != open) {
            now.toggle(one, other);
        }
        return before ? 1 : 0;
    }

    private long addFuel(int fuel) {
        if (!in(fuel, 1, 200)) {
            return ARGUMENT;
        }
        keep();
        now.fuel = Math.min(200, now.fuel + fuel);
        return now.fuel;
    }

    private long setTarget(int opening) {
        if (!in(opening, 0, 8)) {
            return ARGUMENT;
        }
        keep();
        long before = now.target;
        now.target = opening;
        return before;
    }

    private long set(int what, int value) {
        int[][] ranges = {{0, 60}, {2, 9}, {0, 30}, {0, 1}, {0, 8}, {0, 999}};
        if (!in(what, 0, 5) || !in(value, ranges[what][0], ranges[what][1])) {
            return ARGUMENT;
        }
        keep();
        long before = info(what);
        if (what == 0) {
            now.wind = value;
        } else if (what == 1) {
            now.quorum = value;
        } else if (what == 2) {
            now.hold = value;
        } else if (what == 3) {
            now.jammed = value != 0;
        } else if (what == 4) {
            now.opening = value;
        } else {
            now.warmth = value;
        }
        return before;
    }

    private long setSmoke(int r, int smoke) {
        if (!room(r)) {
            return INDEX;
        }
        if (!in(smoke, 0, 99999)) {
            return ARGUMENT;
        }
        keep();
        long before = now.smoke[r];
        now.smoke[r] = smoke;
        return before;
    }

    private long info(int what) {
        long[] all = {now.wind, now.quorum, now.hold, now.jammed ? 1 : 0, now.opening, now.warmth, now.rooms,
            now.t, now.fuel, now.strength(), now.target, now.draft(), now.sensors.size(), now.rules.size(),
            now.events.size()};
        return all[what];
    }

    private long room(int r, int what) {
        long[] all = {now.smoke[r], now.rest[r], now.muting[r], now.alarm(r) ? 1 : 0, now.agreed(r) ? 1 : 0,
            now.votingMask(r), now.votingWeight(r)};
        return all[what];
    }

    private long addSensor(int r, int kind, int threshold, int delay, int weight) {
        if (!room(r)) {
            return INDEX;
        }
        if (!in(kind, 0, 2) || !in(threshold, 1, 9999) || !in(delay, 0, 9) || !in(weight, 1, 3)) {
            return ARGUMENT;
        }
        if (now.sensors.size() == 8) {
            return STATE;
        }
        keep();
        Sensor s = new Sensor();
        s.room = r;
        s.kind = kind;
        s.threshold = threshold;
        s.delay = delay;
        s.weight = weight;
        now.sensors.add(s);
        return now.sensors.size() - 1;
    }

    private long setFault(int sensor, int fault) {
        if (!in(sensor, 0, now.sensors.size() - 1)) {
            return INDEX;
        }
        if (!in(fault, 0, 2)) {
            return ARGUMENT;
        }
        keep();
        long before = now.sensors.get(sensor).fault;
        now.sensors.get(sensor).fault = fault;
        return before;
    }

    private long sensor(int sensor, int what) {
        Sensor s = now.sensors.get(sensor);
        int[] all = {s.room, s.kind, s.threshold, s.delay, s.weight, s.fault, s.count, now.excited(s) ? 1 : 0,
            s.votes() ? 1 : 0};
        return all[what];
    }

    private long addRule(int kind, int r, int limit, int opening) {
        if (!room(r)) {
            return INDEX;
        }
        if (!in(kind, 0, 3) || !in(limit, 0, 9999) || !in(opening, 0, 8)) {
            return ARGUMENT;
        }
        if (now.rules.size() == 8) {
            return STATE;
        }
        keep();
        now.rules.add(new Rule(kind, r, limit, opening));
        return now.rules.size() - 1;
    }

    private long removeRule(int rule) {
        if (!in(rule, 0, now.rules.size() - 1)) {
            return INDEX;
        }
        keep();
        now.rules.remove(rule);
        return now.rules.size();
    }

    private boolean isEventRight(int kind, int a, int b) {
        return kind == 0 && room(a) && in(b, 0, now.rooms) && a != b
                || kind == 1 && in(a, 1, 200) && b == 0
                || kind == 2 && in(a, 0, 60) && b == 0
                || kind == 3 && in(a, 0, now.sensors.size() - 1) && in(b, 0, 2)
                || kind == 4 && a == 0 && b == 0;
    }

    private long addEvent(int minute, int kind, int a, int b) {
        if (minute <= now.t || minute > now.t + 999 || !isEventRight(kind, a, b)) {
            return ARGUMENT;
        }
        if (now.events.size() == 20) {
            return STATE;
        }
        keep();
        now.events.add(new Event(minute, kind, a, b));
        now.events.sort(Comparator.comparingInt(Event::minute)); // a stable sort
        return now.events.size();
    }

    private long event(int k, int what) {
        Event e = now.events.get(k);
        return new int[] {e.minute(), e.kind(), e.a(), e.b()}[what];
    }

    private long mute(int r, int minutes) {
        if (!room(r)) {
            return INDEX;
        }
        if (!in(minutes, 0, 60)) {
            return ARGUMENT;
        }
        keep();
        long before = now.muting[r];
        now.muting[r] = minutes;
        return before;
    }

    private long pass(int n) {
        if (!in(n, 1, 60)) {
            return ARGUMENT;
        }
        keep();
        long began = 0;
        for (int i = 0; i < n; i++) {
            began += now.minute();
        }
        return began;
    }

    private long alarmIn(int r, int limit) {
        All w = now.copy();
        int k = 0;
        while (!w.alarm(r)) {
            if (++k > limit) {
                return -1;
            }
            w.minute();
        }
        return k;
    }

    private long smokeAfter(int r, int n) {
        All w = now.copy();
        for (int i = 0; i < n; i++) {
            w.minute();
        }
        return w.smoke[r];
    }

    private long peak(int r, int opening, int n) {
        All w = now.copy();
        w.rules.clear();
        w.opening = opening;
        w.target = opening;
        long peak = Long.MIN_VALUE;
        for (int i = 0; i < n; i++) {
            w.minute();
            peak = Math.max(peak, w.smoke[r]);
        }
        return peak;
    }

    private long bestOpening(int n) {
        int best = 8;
        for (int opening = 7; opening >= 0; opening--) {
            if (peak(0, opening, n) <= peak(0, best, n)) {
                best = opening;
            }
        }
        return best;
    }

    private static boolean alarms(All w, int r, int n) {
        boolean some = false;
        for (int i = 0; i < n; i++) {
            w.minute();
            some |= w.alarm(r);
        }
        return some;
    }

    private long neededSensors(int r, int n) {
        long set = 0;
        if (alarms(now.copy(), r, n)) {
            for (int i = 0; i < now.sensors.size(); i++) {
                All w = now.copy();
                w.sensors.get(i).fault = 1;
                if (!alarms(w, r, n)) {
                    set += 1L << i;
                }
            }
        }
        return set;
    }

    private long burnsFor(int limit) {
        All w = now.copy();
        int k = 0;
        while (w.fuel != 0) {
            if (++k > limit) {
                return -1;
            }
            w.minute();
        }
        return k;
    }

    private long undo() {
        if (records.isEmpty()) {
            return STATE;
        }
        now = records.removeLast();
        return records.size();
    }

    private long checksum() {
        List<Long> numbers = new ArrayList<>();
        for (int i = 0; i <= 14; i++) {
            numbers.add(info(i));
        }
        for (int r = 0; r < now.rooms; r++) {
            for (int i = 0; i <= 6; i++) {
                numbers.add(room(r, i));
            }
            for (int other = r + 1; other <= now.rooms; other++) {
                numbers.add(now.isOpen(r, other) ? 1L : 0L);
            }
        }
        for (int s = 0; s < now.sensors.size(); s++) {
            for (int i = 0; i <= 8; i++) {
                numbers.add(sensor(s, i));
            }
        }
        numbers.add((long) now.applying());
        for (int k = 0; k < now.events.size(); k++) {
            for (int i = 0; i <= 3; i++) {
                numbers.add(event(k, i));
            }
        }
        for (int i = 0; i <= 5; i++) {
            numbers.add(now.told[i]);
        }
        numbers.add((long) records.size());
        long h = 18750;
        for (long v : numbers) {
            h = 31 * h + v;
        }
        return h;
    }
}
