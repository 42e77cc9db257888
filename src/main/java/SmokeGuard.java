/**
 * A fireplace with a damper and a smoke guard. The document DOC.md tells what every call does;
 * the names of the steps and things here are the document's own.
 */
public final class SmokeGuard {
    public static final int NONE = -1;

    private static final int FIRST_ROOMS = 2;
    private static final int MAX_ROOMS = 4;
    private static final int MAX_SMOKE = 99999;
    private static final int MAX_FUEL = 200;
    private static final int MAX_OPENING = 8;
    private static final int MAX_WARMTH = 999;
    private static final int MAX_SENSORS = 8;
    private static final int MAX_THRESHOLD = 9999;
    private static final int MAX_DELAY = 9;
    private static final int MAX_WEIGHT = 3;
    private static final int MAX_EXCITED = 99;
    private static final int MAX_RULES = 8;
    private static final int MAX_LIMIT = 9999;
    private static final int MAX_EVENTS = 20;
    private static final int MAX_AHEAD = 999;
    private static final int MAX_WIND = 60;
    private static final int MAX_MUTING = 60;
    private static final int MAX_PASSING = 60;
    private static final int MAX_THOUGHT = 200;
    private static final int MAX_RECORDS = 4;

    private static final int SEES_SMOKE = 0;
    private static final int SEES_DRAFT = 1;
    private static final int SEES_WARMTH = 2;

    private static final int SOUND = 0;
    private static final int DEAD = 1;
    private static final int STUCK = 2;

    private static final int IF_SMOKE = 0;
    private static final int IF_DRAFT = 1;
    private static final int IF_ALARM = 2;
    private static final int IF_STRENGTH = 3;

    private static final int TURN_DOOR = 0;
    private static final int ADD_FUEL = 1;
    private static final int CHANGE_WIND = 2;
    private static final int CHANGE_FAULT = 3;
    private static final int TURN_JAM = 4;

    private static final int TOLD_ALARMS = 0;
    private static final int TOLD_MOVES = 1;
    private static final int TOLD_EVENTS = 2;
    private static final int TOLD_FLUE = 3;
    private static final int TOLD_OUTSIDE = 4;
    private static final int TOLD_AGREED = 5;

    /** How many kinds of numbers set, info, room, sensor, event and told know. */
    private static final int SETTINGS = 6;
    private static final int ABOUT_ALL = 15;
    private static final int ABOUT_ROOM = 7;
    private static final int ABOUT_SENSOR = 9;
    private static final int ABOUT_EVENT = 4;
    private static final int COUNTS = 6;

    private static final int[] SETTING_LEAST = {0, 2, 0, 0, 0, 0};
    private static final int[] SETTING_MOST = {60, 9, 30, 1, 8, 999};

    private static final long CHECKSUM_START = 18750L;

    private final World now;
    /** Where minutes pass in thought: made once, since a call may think through many hundred minutes. */
    private final World thought;
    private final Records records;

    public SmokeGuard() {
        now = new World();
        thought = new World();
        records = new Records();
    }

    // ---- the house

    public int begin(int rooms) throws IllegalArgumentException {
        if (!isWithin(rooms, 1, MAX_ROOMS)) {
            throw new IllegalArgumentException("rooms is not 1 to 4");
        }
        int before = now.house.rooms;
        records.keep(now);
        now.startAnew(rooms);
        return before;
    }

    public boolean setDoor(int one, int other, boolean open)
            throws IndexOutOfBoundsException, IllegalArgumentException {
        if (!now.house.isPlace(one) || !now.house.isPlace(other)) {
            throw new IndexOutOfBoundsException("there is no such room");
        }
        if (one == other) {
            throw new IllegalArgumentException("a door is between two different places");
        }
        boolean before = now.house.hasOpenDoor(one, other);
        records.keep(now);
        now.house.putDoor(one, other, open);
        return before;
    }

    public boolean isOpen(int one, int other) throws IndexOutOfBoundsException {
        if (!now.house.isPlace(one) || !now.house.isPlace(other)) {
            throw new IndexOutOfBoundsException("there is no such room");
        }
        return one != other && now.house.hasOpenDoor(one, other);
    }

    public int addFuel(int fuel) throws IllegalArgumentException {
        if (!isWithin(fuel, 1, MAX_FUEL)) {
            throw new IllegalArgumentException("fuel is not 1 to 200");
        }
        records.keep(now);
        now.hearth.feed(fuel);
        return now.hearth.fuel;
    }

    public int setTarget(int opening) throws IllegalArgumentException {
        if (!isWithin(opening, 0, MAX_OPENING)) {
            throw new IllegalArgumentException("opening is not 0 to 8");
        }
        int before = now.hearth.target;
        records.keep(now);
        now.hearth.target = opening;
        return before;
    }

    public int set(int what, int value) throws IllegalArgumentException {
        if (!isWithin(what, 0, SETTINGS - 1)) {
            throw new IllegalArgumentException("what is not 0 to 5");
        }
        if (!isWithin(value, SETTING_LEAST[what], SETTING_MOST[what])) {
            throw new IllegalArgumentException("value is out of range");
        }
        int before = now.aboutAll(what);
        records.keep(now);
        now.putSetting(what, value);
        return before;
    }

    public int setSmoke(int room, int smoke) throws IndexOutOfBoundsException, IllegalArgumentException {
        if (!now.house.isRoom(room)) {
            throw new IndexOutOfBoundsException("there is no such room");
        }
        if (!isWithin(smoke, 0, MAX_SMOKE)) {
            throw new IllegalArgumentException("smoke is not 0 to 99999");
        }
        int before = now.house.smoke[room];
        records.keep(now);
        now.house.smoke[room] = smoke;
        return before;
    }

    public int info(int what) throws IllegalArgumentException {
        if (!isWithin(what, 0, ABOUT_ALL - 1)) {
            throw new IllegalArgumentException("what is not 0 to 14");
        }
        return now.aboutAll(what);
    }

    public int room(int room, int what) throws IndexOutOfBoundsException, IllegalArgumentException {
        if (!now.house.isRoom(room)) {
            throw new IndexOutOfBoundsException("there is no such room");
        }
        if (!isWithin(what, 0, ABOUT_ROOM - 1)) {
            throw new IllegalArgumentException("what is not 0 to 6");
        }
        return now.aboutRoom(room, what);
    }

    // ---- sensors, rules, events

    public int addSensor(int room, int kind, int threshold, int delay, int weight)
            throws IndexOutOfBoundsException, IllegalArgumentException, IllegalStateException {
        if (!now.house.isRoom(room)) {
            throw new IndexOutOfBoundsException("there is no such room");
        }
        if (!isWithin(kind, SEES_SMOKE, SEES_WARMTH) || !isWithin(threshold, 1, MAX_THRESHOLD)
                || !isWithin(delay, 0, MAX_DELAY) || !isWithin(weight, 1, MAX_WEIGHT)) {
            throw new IllegalArgumentException("kind, threshold, delay or weight is out of range");
        }
        if (now.sensors.count >= MAX_SENSORS) {
            throw new IllegalStateException("there are 8 sensors");
        }
        records.keep(now);
        return now.sensors.append(room, kind, threshold, delay, weight);
    }

    public int setFault(int sensor, int fault) throws IndexOutOfBoundsException, IllegalArgumentException {
        if (!now.sensors.has(sensor)) {
            throw new IndexOutOfBoundsException("there is no such sensor");
        }
        if (!isWithin(fault, SOUND, STUCK)) {
            throw new IllegalArgumentException("fault is not 0 to 2");
        }
        int before = now.sensors.fault[sensor];
        records.keep(now);
        now.sensors.fault[sensor] = fault;
        return before;
    }

    public int sensor(int sensor, int what) throws IndexOutOfBoundsException, IllegalArgumentException {
        if (!now.sensors.has(sensor)) {
            throw new IndexOutOfBoundsException("there is no such sensor");
        }
        if (!isWithin(what, 0, ABOUT_SENSOR - 1)) {
            throw new IllegalArgumentException("what is not 0 to 8");
        }
        return now.aboutSensor(sensor, what);
    }

    public int addRule(int kind, int room, int limit, int opening)
            throws IndexOutOfBoundsException, IllegalArgumentException, IllegalStateException {
        if (!now.house.isRoom(room)) {
            throw new IndexOutOfBoundsException("there is no such room");
        }
        if (!isWithin(kind, IF_SMOKE, IF_STRENGTH) || !isWithin(limit, 0, MAX_LIMIT)
                || !isWithin(opening, 0, MAX_OPENING)) {
            throw new IllegalArgumentException("kind, limit or opening is out of range");
        }
        if (now.rules.count >= MAX_RULES) {
            throw new IllegalStateException("there are 8 rules");
        }
        records.keep(now);
        return now.rules.append(kind, room, limit, opening);
    }

    public int removeRule(int rule) throws IndexOutOfBoundsException {
        if (!now.rules.has(rule)) {
            throw new IndexOutOfBoundsException("there is no such rule");
        }
        records.keep(now);
        now.rules.drop(rule);
        return now.rules.count;
    }

    public int applying() {
        return now.firstRule();
    }

    public int addEvent(int minute, int kind, int a, int b)
            throws IllegalArgumentException, IllegalStateException {
        if (!isWithin(minute, now.minute + 1, now.minute + MAX_AHEAD)) {
            throw new IllegalArgumentException("minute is not t + 1 to t + 999");
        }
        if (!now.allowsEvent(kind, a, b)) {
            throw new IllegalArgumentException("there is no such kind, or a or b is out of its range");
        }
        if (now.events.count >= MAX_EVENTS) {
            throw new IllegalStateException("there are 20 events");
        }
        records.keep(now);
        now.events.insert(minute, kind, a, b);
        return now.events.count;
    }

    public int event(int k, int what) throws IllegalArgumentException {
        if (!isWithin(what, 0, ABOUT_EVENT - 1)) {
            throw new IllegalArgumentException("what is not 0 to 3");
        }
        return now.events.has(k) ? now.events.about(k, what) : NONE;
    }

    public int mute(int room, int minutes) throws IndexOutOfBoundsException, IllegalArgumentException {
        if (!now.house.isRoom(room)) {
            throw new IndexOutOfBoundsException("there is no such room");
        }
        if (!isWithin(minutes, 0, MAX_MUTING)) {
            throw new IllegalArgumentException("minutes is not 0 to 60");
        }
        int before = now.alarms.muting[room];
        records.keep(now);
        now.alarms.muting[room] = minutes;
        return before;
    }

    // ---- minutes

    public int pass(int n) throws IllegalArgumentException {
        if (!isWithin(n, 1, MAX_PASSING)) {
            throw new IllegalArgumentException("n is not 1 to 60");
        }
        records.keep(now);
        int began = 0;
        for (int i = 0; i < n; i++) {
            began += now.letMinutePass();
        }
        return began;
    }

    public int told(int what) throws IllegalArgumentException {
        if (!isWithin(what, 0, COUNTS - 1)) {
            throw new IllegalArgumentException("what is not 0 to 5");
        }
        return now.counts[what];
    }

    // ---- in thought

    public int alarmIn(int room, int limit) throws IndexOutOfBoundsException, IllegalArgumentException {
        if (!now.house.isRoom(room)) {
            throw new IndexOutOfBoundsException("there is no such room");
        }
        if (!isWithin(limit, 1, MAX_THOUGHT)) {
            throw new IllegalArgumentException("limit is not 1 to 200");
        }
        if (now.alarms.soundsIn(room)) {
            return 0;
        }
        thought.copyFrom(now);
        return firstAlarm(room, limit);
    }

    public int smokeAfter(int room, int n) throws IndexOutOfBoundsException, IllegalArgumentException {
        if (!now.house.isRoom(room)) {
            throw new IndexOutOfBoundsException("there is no such room");
        }
        if (!isWithin(n, 1, MAX_THOUGHT)) {
            throw new IllegalArgumentException("n is not 1 to 200");
        }
        thought.copyFrom(now);
        for (int i = 0; i < n; i++) {
            thought.letMinutePass();
        }
        return thought.house.smoke[room];
    }

    public int peak(int room, int opening, int n) throws IndexOutOfBoundsException, IllegalArgumentException {
        if (!now.house.isRoom(room)) {
            throw new IndexOutOfBoundsException("there is no such room");
        }
        if (!isWithin(opening, 0, MAX_OPENING) || !isWithin(n, 1, MAX_THOUGHT)) {
            throw new IllegalArgumentException("opening is not 0 to 8, or n is not 1 to 200");
        }
        return greatestSmoke(room, opening, n);
    }

    public int bestOpening(int n) throws IllegalArgumentException {
        if (!isWithin(n, 1, MAX_THOUGHT)) {
            throw new IllegalArgumentException("n is not 1 to 200");
        }
        int best = 0;
        int least = greatestSmoke(0, 0, n);
        for (int opening = 1; opening <= MAX_OPENING; opening++) {
            int greatest = greatestSmoke(0, opening, n);
            if (greatest < least) {
                best = opening;
                least = greatest;
            }
        }
        return best;
    }

    public int neededSensors(int room, int n) throws IndexOutOfBoundsException, IllegalArgumentException {
        if (!now.house.isRoom(room)) {
            throw new IndexOutOfBoundsException("there is no such room");
        }
        if (!isWithin(n, 1, MAX_THOUGHT)) {
            throw new IllegalArgumentException("n is not 1 to 200");
        }
        thought.copyFrom(now);
        if (firstAlarm(room, n) == NONE) {
            return 0;
        }
        int needed = 0;
        for (int sensor = 0; sensor < now.sensors.count; sensor++) {
            thought.copyFrom(now);
            thought.sensors.fault[sensor] = DEAD;
            if (firstAlarm(room, n) == NONE) {
                needed |= 1 << sensor;
            }
        }
        return needed;
    }

    public int burnsFor(int limit) throws IllegalArgumentException {
        if (!isWithin(limit, 1, MAX_THOUGHT)) {
            throw new IllegalArgumentException("limit is not 1 to 200");
        }
        if (now.hearth.fuel == 0) {
            return 0;
        }
        thought.copyFrom(now);
        for (int i = 1; i <= limit; i++) {
            thought.letMinutePass();
            if (thought.hearth.fuel == 0) {
                return i;
            }
        }
        return NONE;
    }

    // ---- undo, checksum

    public int undo() throws IllegalStateException {
        if (records.kept == 0) {
            throw new IllegalStateException("there is no record");
        }
        records.giveBack(now);
        return records.kept;
    }

    public long checksum() {
        long h = CHECKSUM_START;
        for (int what = 0; what < ABOUT_ALL; what++) {
            h = mix(h, now.aboutAll(what));
        }
        h = mixRooms(h);
        for (int sensor = 0; sensor < now.sensors.count; sensor++) {
            for (int what = 0; what < ABOUT_SENSOR; what++) {
                h = mix(h, now.aboutSensor(sensor, what));
            }
        }
        h = mix(h, now.firstRule());
        for (int k = 0; k < now.events.count; k++) {
            for (int what = 0; what < ABOUT_EVENT; what++) {
                h = mix(h, now.events.about(k, what));
            }
        }
        for (int what = 0; what < COUNTS; what++) {
            h = mix(h, now.counts[what]);
        }
        return mix(h, records.kept);
    }

    private long mixRooms(long start) {
        long h = start;
        for (int room = 0; room < now.house.rooms; room++) {
            for (int what = 0; what < ABOUT_ROOM; what++) {
                h = mix(h, now.aboutRoom(room, what));
            }
            for (int other = room + 1; other <= now.house.rooms; other++) {
                h = mix(h, now.house.hasOpenDoor(room, other) ? 1 : 0);
            }
        }
        return h;
    }

    private static long mix(long h, int v) {
        return 31 * h + v;
    }

    private static boolean isWithin(int value, int least, int most) {
        return value >= least && value <= most;
    }

    /** The minute, from 1, at whose end the world in thought first has an alarm in the room. */
    private int firstAlarm(int room, int limit) {
        for (int i = 1; i <= limit; i++) {
            thought.letMinutePass();
            if (thought.alarms.soundsIn(room)) {
                return i;
            }
        }
        return NONE;
    }

    private int greatestSmoke(int room, int opening, int n) {
        thought.copyFrom(now);
        thought.rules.clear();
        thought.hearth.opening = opening;
        thought.hearth.target = opening;
        int greatest = 0;
        for (int i = 0; i < n; i++) {
            thought.letMinutePass();
            greatest = Math.max(greatest, thought.house.smoke[room]);
        }
        return greatest;
    }

    private static void copyRow(int[] from, int[] to) {
        System.arraycopy(from, 0, to, 0, Math.min(from.length, to.length));
    }

    /** The rooms, their smoke and their doors. A place is a room or, with the number of rooms, the outside. */
    private static final class House {
        private static final int PLACES = MAX_ROOMS + 1;

        int rooms = FIRST_ROOMS;
        final int[] smoke = new int[MAX_ROOMS];
        /** A bit for each pair of places, set if the door between them is open. */
        private int openDoors;
        /** What the doors bring to each room, kept here so that no minute makes a row. */
        private final int[] gain = new int[MAX_ROOMS];

        void startAnew(int wanted) {
            rooms = wanted;
            openDoors = 0;
            for (int i = 0; i < smoke.length; i++) {
                smoke[i] = 0;
            }
        }

        void copyFrom(House other) {
            rooms = other.rooms;
            openDoors = other.openDoors;
            copyRow(other.smoke, smoke);
        }

        boolean isRoom(int room) {
            return room >= 0 && room < rooms;
        }

        boolean isPlace(int place) {
            return place >= 0 && place <= rooms;
        }

        int smokeIn(int room) {
            return room >= 0 && room < rooms ? smoke[room] : 0;
        }

        private static int doorBit(int one, int other) {
            return 1 << (one < other ? one * PLACES + other : other * PLACES + one);
        }

        boolean hasOpenDoor(int one, int other) {
            return (openDoors & doorBit(one, other)) != 0;
        }

        void putDoor(int one, int other, boolean open) {
            if (open) {
                openDoors |= doorBit(one, other);
            } else {
                openDoors &= ~doorBit(one, other);
            }
        }

        void turnDoor(int one, int other) {
            openDoors ^= doorBit(one, other);
        }

        /** Lets smoke go through all open doors at the same time; returns how much went outside. */
        int spread() {
            for (int i = 0; i < rooms; i++) {
                gain[i] = 0;
            }
            int outside = 0;
            for (int a = 0; a < rooms; a++) {
                spreadFrom(a);
                if (hasOpenDoor(a, rooms)) {
                    int flow = smoke[a] / 4;
                    gain[a] -= flow;
                    outside += flow;
                }
            }
            for (int i = 0; i < rooms; i++) {
                smoke[i] = Math.min(smoke[i] + gain[i], MAX_SMOKE);
            }
            return outside;
        }

        private void spreadFrom(int a) {
            for (int b = a + 1; b < rooms; b++) {
                if (hasOpenDoor(a, b)) {
                    int flow = (smoke[a] - smoke[b]) / 4;
                    gain[a] -= flow;
                    gain[b] += flow;
                }
            }
        }
    }

    /** The fire, its flue, its damper and the wind. */
    private static final class Hearth {
        int fuel;
        int warmth;
        int wind;
        int opening = MAX_OPENING;
        int target = MAX_OPENING;
        boolean jammed;

        void startAnew() {
            fuel = 0;
            warmth = 0;
            wind = 0;
            opening = MAX_OPENING;
            target = MAX_OPENING;
            jammed = false;
        }

        void copyFrom(Hearth other) {
            fuel = other.fuel;
            warmth = other.warmth;
            wind = other.wind;
            opening = other.opening;
            target = other.target;
            jammed = other.jammed;
        }

        int strength() {
            return fuel == 0 ? 0 : 1 + fuel / 25;
        }

        int draft() {
            int pull = warmth * opening / 8 - wind;
            return pull < 0 ? 0 : pull;
        }

        void feed(int more) {
            fuel = Math.min(fuel + more, MAX_FUEL);
        }

        /** The strength is given, since fuel and warmth both change by the strength before. */
        void burn(int strength) {
            if (strength > 0) {
                fuel = Math.max(fuel - (1 + opening / 2), 0);
            }
            warmth = Math.min(warmth + 6 * strength - warmth / 8, MAX_WARMTH);
        }

        boolean moveDamper() {
            if (jammed || opening == target) {
                return false;
            }
            opening += opening < target ? 1 : -1;
            return true;
        }
    }

    /** The sensors, a row for each of their numbers. What excites them is the world's to tell. */
    private static final class Sensors {
        int count;
        final int[] room = new int[MAX_SENSORS];
        final int[] kind = new int[MAX_SENSORS];
        final int[] threshold = new int[MAX_SENSORS];
        final int[] delay = new int[MAX_SENSORS];
        final int[] weight = new int[MAX_SENSORS];
        final int[] fault = new int[MAX_SENSORS];
        final int[] excitedFor = new int[MAX_SENSORS];

        void clear() {
            count = 0;
        }

        void copyFrom(Sensors other) {
            count = other.count;
            copyRow(other.room, room);
            copyRow(other.kind, kind);
            copyRow(other.threshold, threshold);
            copyRow(other.delay, delay);
            copyRow(other.weight, weight);
            copyRow(other.fault, fault);
            copyRow(other.excitedFor, excitedFor);
        }

        boolean has(int sensor) {
            return sensor >= 0 && sensor < count;
        }

        int append(int inRoom, int ofKind, int from, int late, int heavy) {
            int sensor = count;
            if (sensor < MAX_SENSORS) {
                room[sensor] = inRoom;
                kind[sensor] = ofKind;
                threshold[sensor] = from;
                delay[sensor] = late;
                weight[sensor] = heavy;
                fault[sensor] = SOUND;
                excitedFor[sensor] = 0;
                count = sensor + 1;
            }
            return sensor;
        }

        boolean votes(int sensor) {
            return fault[sensor] == STUCK
                    || fault[sensor] == SOUND && excitedFor[sensor] > delay[sensor];
        }

        /** A set of sensors is a bit mask, as the face tells it. */
        int votersIn(int inRoom) {
            int voters = 0;
            for (int i = 0; i < count; i++) {
                if (room[i] == inRoom && votes(i)) {
                    voters |= 1 << i;
                }
            }
            return voters;
        }

        int weightOf(int set) {
            int sum = 0;
            for (int i = 0; i < count; i++) {
                if ((set & (1 << i)) != 0) {
                    sum += weight[i];
                }
            }
            return sum;
        }

        void countMinute(int sensor, boolean excited) {
            excitedFor[sensor] = excited ? Math.min(excitedFor[sensor] + 1, MAX_EXCITED) : 0;
        }
    }

    /** The quorum, the hold, and what rests of each room's alarm and muting. */
    private static final class Alarms {
        private static final int FIRST_QUORUM = 2;
        private static final int FIRST_HOLD = 3;

        int quorum = FIRST_QUORUM;
        int hold = FIRST_HOLD;
        final int[] rest = new int[MAX_ROOMS];
        final int[] muting = new int[MAX_ROOMS];

        void startAnew() {
            quorum = FIRST_QUORUM;
            hold = FIRST_HOLD;
            for (int i = 0; i < MAX_ROOMS; i++) {
                rest[i] = 0;
                muting[i] = 0;
            }
        }

        void copyFrom(Alarms other) {
            quorum = other.quorum;
            hold = other.hold;
            copyRow(other.rest, rest);
            copyRow(other.muting, muting);
        }

        boolean soundsIn(int room) {
            return rest[room] > 0 && muting[room] == 0;
        }

        void countMinute(int room, boolean agreed) {
            muting[room] = Math.max(muting[room] - 1, 0);
            rest[room] = agreed ? hold + 1 : Math.max(rest[room] - 1, 0);
        }
    }

    /** The rules, a row for each of their numbers. Which one applies is the world's to tell. */
    private static final class Rules {
        int count;
        final int[] kind = new int[MAX_RULES];
        final int[] room = new int[MAX_RULES];
        final int[] limit = new int[MAX_RULES];
        final int[] opening = new int[MAX_RULES];

        void clear() {
            count = 0;
        }

        void copyFrom(Rules other) {
            count = other.count;
            copyRow(other.kind, kind);
            copyRow(other.room, room);
            copyRow(other.limit, limit);
            copyRow(other.opening, opening);
        }

        boolean has(int rule) {
            return rule >= 0 && rule < count;
        }

        int append(int ofKind, int ofRoom, int from, int toOpening) {
            int rule = count;
            if (rule < MAX_RULES) {
                kind[rule] = ofKind;
                room[rule] = ofRoom;
                limit[rule] = from;
                opening[rule] = toOpening;
                count = rule + 1;
            }
            return rule;
        }

        void drop(int rule) {
            for (int i = rule; i + 1 < count; i++) {
                kind[i] = kind[i + 1];
                room[i] = room[i + 1];
                limit[i] = limit[i + 1];
                opening[i] = opening[i + 1];
            }
            count--;
        }
    }

    /** The events that have not come yet, in the order in which they will come. */
    private static final class Events {
        int count;
        final int[] minute = new int[MAX_EVENTS];
        final int[] kind = new int[MAX_EVENTS];
        final int[] a = new int[MAX_EVENTS];
        final int[] b = new int[MAX_EVENTS];

        void clear() {
            count = 0;
        }

        void copyFrom(Events other) {
            count = other.count;
            copyRow(other.minute, minute);
            copyRow(other.kind, kind);
            copyRow(other.a, a);
            copyRow(other.b, b);
        }

        boolean has(int k) {
            return k >= 0 && k < count;
        }

        int about(int k, int what) {
            switch (what) {
                case 0:
                    return minute[k];
                case 1:
                    return kind[k];
                case 2:
                    return a[k];
                default:
                    return b[k];
            }
        }

        /** Puts an event behind all that come no later. */
        void insert(int itsMinute, int itsKind, int itsA, int itsB) {
            if (count >= MAX_EVENTS) {
                return;
            }
            int place = count;
            for (; place > 0 && minute[place - 1] > itsMinute; place--) {
                moveEvent(place - 1, place);
            }
            minute[place] = itsMinute;
            kind[place] = itsKind;
            a[place] = itsA;
            b[place] = itsB;
            count++;
        }

        int dueIn(int t) {
            int due = 0;
            while (due < count && minute[due] <= t) {
                due++;
            }
            return due;
        }

        void dropFirst(int due) {
            for (int i = due; i < count; i++) {
                moveEvent(i, i - due);
            }
            count -= due;
        }

        private void moveEvent(int from, int to) {
            minute[to] = minute[from];
            kind[to] = kind[from];
            a[to] = a[from];
            b[to] = b[from];
        }
    }

    /** Everything that a record keeps and that a thought starts from. */
    private static final class World {
        int minute;
        final House house = new House();
        final Hearth hearth = new Hearth();
        final Sensors sensors = new Sensors();
        final Alarms alarms = new Alarms();
        final Rules rules = new Rules();
        final Events events = new Events();
        final int[] counts = new int[COUNTS];

        void startAnew(int rooms) {
            minute = 0;
            house.startAnew(rooms);
            hearth.startAnew();
            sensors.clear();
            alarms.startAnew();
            rules.clear();
            events.clear();
            for (int i = 0; i < COUNTS; i++) {
                counts[i] = 0;
            }
        }

        void copyFrom(World other) {
            minute = other.minute;
            house.copyFrom(other.house);
            hearth.copyFrom(other.hearth);
            sensors.copyFrom(other.sensors);
            alarms.copyFrom(other.alarms);
            rules.copyFrom(other.rules);
            events.copyFrom(other.events);
            copyRow(other.counts, counts);
        }

        int aboutAll(int what) {
            switch (what) {
                case 0:
                    return hearth.wind;
                case 1:
                    return alarms.quorum;
                case 2:
                    return alarms.hold;
                case 3:
                    return hearth.jammed ? 1 : 0;
                case 4:
                    return hearth.opening;
                case 5:
                    return hearth.warmth;
                case 6:
                    return house.rooms;
                case 7:
                    return minute;
                case 8:
                    return hearth.fuel;
                case 9:
                    return hearth.strength();
                case 10:
                    return hearth.target;
                case 11:
                    return hearth.draft();
                case 12:
                    return sensors.count;
                case 13:
                    return rules.count;
                default:
                    return events.count;
            }
        }

        void putSetting(int what, int value) {
            switch (what) {
                case 0:
                    hearth.wind = value;
                    break;
                case 1:
                    alarms.quorum = value;
                    break;
                case 2:
                    alarms.hold = value;
                    break;
                case 3:
                    hearth.jammed = value == 1;
                    break;
                case 4:
                    hearth.opening = value;
                    break;
                default:
                    hearth.warmth = value;
                    break;
            }
        }

        int aboutRoom(int room, int what) {
            switch (what) {
                case 0:
                    return house.smoke[room];
                case 1:
                    return alarms.rest[room];
                case 2:
                    return alarms.muting[room];
                case 3:
                    return alarms.soundsIn(room) ? 1 : 0;
                case 4:
                    return isAgreedOn(room) ? 1 : 0;
                case 5:
                    return sensors.votersIn(room);
                default:
                    return sensors.weightOf(sensors.votersIn(room));
            }
        }

        int aboutSensor(int sensor, int what) {
            switch (what) {
                case 0:
                    return sensors.room[sensor];
                case 1:
                    return sensors.kind[sensor];
                case 2:
                    return sensors.threshold[sensor];
                case 3:
                    return sensors.delay[sensor];
                case 4:
                    return sensors.weight[sensor];
                case 5:
                    return sensors.fault[sensor];
                case 6:
                    return sensors.excitedFor[sensor];
                case 7:
                    return isExcited(sensor) ? 1 : 0;
                default:
                    return sensors.votes(sensor) ? 1 : 0;
            }
        }

        boolean isExcited(int sensor) {
            int threshold = sensors.threshold[sensor];
            switch (sensors.kind[sensor]) {
                case SEES_SMOKE:
                    return house.smokeIn(sensors.room[sensor]) >= threshold;
                case SEES_DRAFT:
                    return hearth.draft() < threshold && hearth.strength() > 0;
                default:
                    return hearth.warmth >= threshold;
            }
        }

        boolean isAgreedOn(int room) {
            int voters = sensors.votersIn(room);
            return Integer.bitCount(voters) >= 2 && sensors.weightOf(voters) >= alarms.quorum;
        }

        int firstRule() {
            for (int i = 0; i < rules.count; i++) {
                if (ruleApplies(i)) {
                    return i;
                }
            }
            return NONE;
        }

        private boolean ruleApplies(int rule) {
            int room = rules.room[rule];
            int limit = rules.limit[rule];
            switch (rules.kind[rule]) {
                case IF_SMOKE:
                    return house.smokeIn(room) >= limit;
                case IF_DRAFT:
                    return hearth.draft() < limit;
                case IF_ALARM:
                    return house.isRoom(room) && alarms.soundsIn(room);
                default:
                    return hearth.strength() <= limit;
            }
        }

        boolean allowsEvent(int kind, int a, int b) {
            switch (kind) {
                case TURN_DOOR:
                    return house.isRoom(a) && house.isPlace(b) && a != b;
                case ADD_FUEL:
                    return isWithin(a, 1, MAX_FUEL) && b == 0;
                case CHANGE_WIND:
                    return isWithin(a, 0, MAX_WIND) && b == 0;
                case CHANGE_FAULT:
                    return sensors.has(a) && isWithin(b, SOUND, STUCK);
                case TURN_JAM:
                    return a == 0 && b == 0;
                default:
                    return false;
            }
        }

        /** One minute, in the document's seven steps; returns how many alarms began in it. */
        int letMinutePass() {
            minute++;
            takeEvents();
            int strength = hearth.strength();
            hearth.burn(strength);
            letSmokeRise(strength);
            counts[TOLD_OUTSIDE] += house.spread();
            for (int i = 0; i < sensors.count; i++) {
                sensors.countMinute(i, isExcited(i));
            }
            int began = countAlarms();
            moveByRules();
            return began;
        }

        private void takeEvents() {
            int due = events.dueIn(minute);
            for (int k = 0; k < due; k++) {
                takeEvent(k);
            }
            events.dropFirst(due);
            counts[TOLD_EVENTS] += due;
        }

        private void takeEvent(int k) {
            int a = events.a[k];
            int b = events.b[k];
            switch (events.kind[k]) {
                case TURN_DOOR:
                    house.turnDoor(a, b);
                    break;
                case ADD_FUEL:
                    hearth.feed(a);
                    break;
                case CHANGE_WIND:
                    hearth.wind = a;
                    break;
                case CHANGE_FAULT:
                    if (sensors.has(a)) {
                        sensors.fault[a] = b;
                    }
                    break;
                default:
                    hearth.jammed = !hearth.jammed;
                    break;
            }
        }

        private void letSmokeRise(int strength) {
            int draft = hearth.draft();
            int made = 40 * strength;
            int drawn = Math.min(made, 2 * draft);
            int inRoom = house.smoke[0] + made - drawn;
            int drawnFromRoom = Math.min(inRoom, draft / 2);
            house.smoke[0] = inRoom - drawnFromRoom;
            counts[TOLD_FLUE] += drawn + drawnFromRoom;
        }

        private int countAlarms() {
            int began = 0;
            boolean someAgreed = false;
            for (int room = 0; room < house.rooms; room++) {
                boolean sounded = alarms.soundsIn(room);
                boolean agreed = isAgreedOn(room);
                alarms.countMinute(room, agreed);
                if (alarms.soundsIn(room) && !sounded) {
                    began++;
                }
                someAgreed = someAgreed || agreed;
            }
            counts[TOLD_ALARMS] += began;
            if (someAgreed) {
                counts[TOLD_AGREED]++;
            }
            return began;
        }

        private void moveByRules() {
            int rule = firstRule();
            if (rules.has(rule)) {
                hearth.target = rules.opening[rule];
            }
            if (hearth.moveDamper()) {
                counts[TOLD_MOVES]++;
            }
        }
    }

    /** The latest records, in a ring of rows that are made once and written over. */
    private static final class Records {
        private final World[] rows = new World[MAX_RECORDS];
        private int oldest;
        int kept;

        Records() {
            for (int i = 0; i < MAX_RECORDS; i++) {
                rows[i] = new World();
            }
        }

        private World row(int age) {
            return rows[(oldest + age) % MAX_RECORDS];
        }

        /** When all rows are taken, the next one is the oldest, which is dropped. */
        void keep(World world) {
            World row = row(kept);
            if (row != null) {
                row.copyFrom(world);
            }
            if (kept < MAX_RECORDS) {
                kept++;
            } else {
                oldest = (oldest + 1) % MAX_RECORDS;
            }
        }

        void giveBack(World world) {
            if (kept == 0) {
                return;
            }
            kept--;
            World row = row(kept);
            if (row != null) {
                world.copyFrom(row);
            }
        }
    }
}
