import java.math.BigInteger;
import java.util.ArrayList;
import java.util.List;

/** The sentences of UNDO and EXCEPTIONS, of the constant, and of promises 28 and 29. */
final class UndoSentences extends Sentences {
    UndoSentences(Check check, Document document) {
        super(check, document);
    }

    @Override
    void all() {
        records();
        mostRecords();
        exceptions();
        thought();
        undo();
        checksum();
    }

    // ---- UNDO

    private void records() {
        said("Every method that is marked \"undoable\" records everything, as it was before the call, when it ends "
                + "normally (also if nothing changes).", () -> {
            changesNothing("begin(2)", x -> x.begin(2));
            changesNothing("setDoor(0, 1, false)", x -> number(x.setDoor(0, 1, false)));
            changesNothing("setTarget(8)", x -> x.setTarget(8));
            for (int k = 0; k <= 5; k++) {
                int what = k;
                changesNothing("set(" + k + ", as it is)", x -> x.set(what, x.info(what)));
            }
            changesNothing("setSmoke(1, 0)", x -> x.setSmoke(1, 0));
            changesNothing("mute(1, 0)", x -> x.mute(1, 0));
            undoable("setFault(0, as it is)", new House[] {House.BUSY}, x -> x.setFault(0, x.sensor(0, 5)));
            SmokeGuard full = House.FULL.make();
            full.undo();
            due("addFuel(1) beyond 200", full.addFuel(1), 200);
            due("makes a record, too", full.undo(), 3);
            undoable("pass(60)", House.WITH_SPACE, x -> x.pass(60));
            SmokeGuard x = new SmokeGuard();
            throwing(ARGUMENT, "pass(0)", () -> x.pass(0));
            throwing(STATE, "undo() behind a refused call", x::undo);
        });
    }

    /** On a new object the call changes nothing but that it makes a record. */
    private void changesNothing(String call, Call done) {
        SmokeGuard x = new SmokeGuard();
        done.on(x);
        due("undo() behind " + call, x.undo(), 0);
        due("the checksum behind both", x.checksum(), new SmokeGuard().checksum());
    }

    private void mostRecords() {
        said("At most 4 records are kept; when one more is made, the oldest is dropped. undo() restores the latest "
                + "one and removes it.", () -> {
            for (int made = 0; made <= 13; made++) {
                SmokeGuard x = new SmokeGuard();
                for (int i = 1; i <= made; i++) {
                    x.setSmoke(0, i);
                }
                for (int left = Math.min(made, 4) - 1; left >= 0; left--) {
                    due("records left of " + made, x.undo(), left);
                    due("the smoke before the latest", x.room(0, 0), made - Math.min(made, 4) + left);
                }
                throwing(STATE, "undo() without records", x::undo);
                due("it changes nothing", x.room(0, 0), Math.max(made - 4, 0));
            }
            takenInTurns(3, 1);
            takenInTurns(5, 2);
            takenInTurns(2, 3);
            takenInTurns(1, 1);
            SmokeGuard full = House.FULL.make();
            full.undo();
            List<Long> before = asked(full);
            full.begin(1);
            full.undo();
            due("everything of a full one", asked(full).equals(before), true);
            for (House house : new House[] {House.BUSY, House.FULL}) {
                overwritten(house);
            }
        });
    }

    /** What a record keeps comes back when something else has been put in the place of all of it. */
    private void overwritten(House house) {
        SmokeGuard x = house.make();
        x.begin(2);
        x.addSensor(1, 1, 345, 7, 2);
        x.addRule(3, 1, 4321, 5);
        x.addEvent(999, 2, 17, 0);
        for (int left = 3; left >= 0; left--) {
            due("records left", x.undo(), left);
        }
        due("what " + house + " tells", asked(x).equals(asked(house.make())), true);
        due("what " + house + " forecasts", Answers.forecasts(x).equals(Answers.forecasts(house.make())), true);
    }

    /** Calls and undos by turns, so that the records wrap around in every way. */
    private void takenInTurns(int calls, int undos) {
        SmokeGuard x = new SmokeGuard();
        List<Integer> records = new ArrayList<>();
        int smoke = 0;
        int next = 1;
        for (int turn = 0; turn < 25; turn++) {
            for (int i = 0; i < calls; i++) {
                x.setSmoke(1, next);
                records.add(smoke);
                smoke = next++;
                if (records.size() > 4) {
                    records.remove(0);
                }
            }
            for (int i = 0; i < undos && !records.isEmpty(); i++) {
                smoke = records.remove(records.size() - 1);
                due("records left", x.undo(), records.size());
                due("the smoke then", x.room(1, 0), smoke);
            }
        }
    }

    // ---- EXCEPTIONS

    /** Calls of every method that throws, refused by an object with 4 rooms and 8 sensors. */
    private static final Call[] REFUSED = {
        x -> x.begin(5), x -> number(x.setDoor(0, 5, true)), x -> number(x.setDoor(4, 4, false)),
        x -> number(x.isOpen(5, 0)), x -> x.addFuel(201), x -> x.setTarget(9), x -> x.set(0, 61), x -> x.set(6, 2),
        x -> x.setSmoke(4, 0), x -> x.setSmoke(0, 100000), x -> x.info(15), x -> x.room(4, 0), x -> x.room(0, 7),
        x -> x.addSensor(4, 0, 1, 0, 1), x -> x.addSensor(0, 0, 0, 0, 1), x -> x.addSensor(0, 0, 1, 0, 1),
        x -> x.setFault(8, 0), x -> x.setFault(0, 3), x -> x.sensor(8, 0), x -> x.sensor(0, 9),
        x -> x.addRule(0, 4, 0, 0), x -> x.addRule(4, 0, 0, 0), x -> x.addRule(0, 0, 0, 0), x -> x.removeRule(8),
        x -> x.addEvent(x.info(7), 4, 0, 0), x -> x.addEvent(x.info(7) + 1, 4, 0, 0), x -> x.event(0, 4),
        x -> x.mute(4, 0), x -> x.mute(0, 61), x -> x.pass(61), x -> x.told(6), x -> x.alarmIn(4, 1),
        x -> x.alarmIn(0, 201), x -> x.smokeAfter(4, 1), x -> x.smokeAfter(0, 201), x -> x.peak(4, 0, 1),
        x -> x.peak(0, 9, 1), x -> x.peak(0, 0, 201), x -> x.bestOpening(201), x -> x.neededSensors(4, 1),
        x -> x.neededSensors(0, 201), x -> x.burnsFor(201)};

    private void exceptions() {
        said("A call that throws an exception changes nothing.", () -> {
            SmokeGuard x = House.FULL.make();
            int thrown = 0;
            for (Call call : REFUSED) {
                try {
                    call.on(x);
                } catch (IllegalArgumentException | IllegalStateException | IndexOutOfBoundsException e) {
                    thrown++;
                }
            }
            due("how many of them threw", thrown, REFUSED.length);
            due("all is as before", Answers.of(x).equals(Answers.of(House.FULL.make())), true);
            SmokeGuard y = new SmokeGuard();
            throwing(STATE, "undo() of a new one", y::undo);
            due("a new one is as before", Answers.of(y).equals(Answers.of(new SmokeGuard())), true);
        });
        said("If several exceptions of a method apply, the one that is listed first is thrown.", () -> {
            House[] full = {House.FULL};
            refused(INDEX, "setDoor(R + 1, R + 1)", x -> number(x.setDoor(x.info(6) + 1, x.info(6) + 1, true)));
            refused(INDEX, "setDoor(-1, -1)", x -> number(x.setDoor(-1, -1, true)));
            refused(INDEX, "setSmoke(R, -1)", x -> x.setSmoke(x.info(6), -1));
            refused(INDEX, "room(R, 7)", x -> x.room(x.info(6), 7));
            refused(INDEX, "addSensor: no room, all others wrong, and full", x -> x.addSensor(-1, 3, 0, 10, 4));
            refused(ARGUMENT, "addSensor: kind wrong, and full", full, x -> x.addSensor(0, 3, 1, 0, 1));
            refused(ARGUMENT, "addSensor: threshold wrong, and full", full, x -> x.addSensor(0, 0, 0, 0, 1));
            refused(ARGUMENT, "addSensor: delay wrong, and full", full, x -> x.addSensor(0, 0, 1, 10, 1));
            refused(ARGUMENT, "addSensor: weight wrong, and full", full, x -> x.addSensor(0, 0, 1, 0, 4));
            refused(INDEX, "setFault: neither", x -> x.setFault(x.info(12), 3));
            refused(INDEX, "sensor: neither", x -> x.sensor(x.info(12), 9));
            refused(INDEX, "addRule: no room, all others wrong, and full", x -> x.addRule(4, -1, -1, 9));
            refused(ARGUMENT, "addRule: kind wrong, and full", full, x -> x.addRule(4, 0, 0, 0));
            refused(ARGUMENT, "addRule: limit wrong, and full", full, x -> x.addRule(0, 0, 10000, 0));
            refused(ARGUMENT, "addRule: opening wrong, and full", full, x -> x.addRule(0, 0, 0, 9));
            refused(ARGUMENT, "addEvent: minute wrong, and full", full, x -> x.addEvent(x.info(7), 4, 0, 0));
            refused(ARGUMENT, "addEvent: kind wrong, and full", full, x -> x.addEvent(x.info(7) + 1, 5, 0, 0));
            refused(ARGUMENT, "addEvent: a wrong, and full", full, x -> x.addEvent(x.info(7) + 1, 4, 1, 0));
            refused(ARGUMENT, "addEvent: b wrong, and full", full, x -> x.addEvent(x.info(7) + 1, 4, 0, 1));
            refused(INDEX, "mute(R, 61)", x -> x.mute(x.info(6), 61));
            refused(INDEX, "alarmIn(R, 0)", x -> x.alarmIn(x.info(6), 0));
            refused(INDEX, "smokeAfter(R, 201)", x -> x.smokeAfter(x.info(6), 201));
            refused(INDEX, "peak(R, 9, 0)", x -> x.peak(x.info(6), 9, 0));
            refused(INDEX, "neededSensors(R, 0)", x -> x.neededSensors(x.info(6), 0));
        });
        said("NONE is returned only if no exception applies.", () -> {
            refused(ARGUMENT, "event(-1, 4)", x -> x.event(-1, 4));
            refused(ARGUMENT, "event(20, -1)", x -> x.event(20, -1));
            refused(INDEX, "alarmIn of no room", x -> x.alarmIn(-1, 1));
            refused(ARGUMENT, "alarmIn without an alarm", x -> x.alarmIn(0, 201));
            refused(ARGUMENT, "burnsFor with much fuel", new House[] {House.BUSY, House.FULL}, x -> x.burnsFor(-1));
        });
        said("`NONE = -1`: Returned where there is no such thing.", () -> {
            due("NONE", SmokeGuard.NONE, -1);
            SmokeGuard x = new SmokeGuard();
            due("no rule", x.applying(), SmokeGuard.NONE);
            due("no event", x.event(0, 0), SmokeGuard.NONE);
            due("no alarm", x.alarmIn(0, 200), SmokeGuard.NONE);
            x.addFuel(200);
            due("no end of the fuel", x.burnsFor(1), SmokeGuard.NONE);
        });
    }

    /** In every state the forecasts must be what passing brings about. */
    private void thought() {
        said("In thought minutes pass as in pass(), with events and rules, as far as nothing else is told.", () -> {
            for (House house : House.ALL) {
                for (int n : new int[] {1, 2, 7, 60}) {
                    SmokeGuard x = house.make();
                    int rooms = x.info(6);
                    int[] smoke = new int[rooms];
                    for (int room = 0; room < rooms; room++) {
                        smoke[room] = x.smokeAfter(room, n);
                    }
                    int burns = x.burnsFor(n);
                    boolean burnt = x.info(8) == 0;
                    x.pass(n);
                    for (int room = 0; room < rooms; room++) {
                        due(house + ": smoke of room " + room + " after " + n, smoke[room], x.room(room, 0));
                    }
                    due(house + ": whether there is fuel up to " + n, burns == -1, !burnt && x.info(8) > 0);
                }
                alarmsAsThought(house);
            }
        });
    }

    private void alarmsAsThought(House house) {
        SmokeGuard x = house.make();
        int rooms = x.info(6);
        int[] thought = new int[rooms];
        int[] seen = new int[rooms];
        for (int room = 0; room < rooms; room++) {
            thought[room] = x.alarmIn(room, 60);
            seen[room] = x.room(room, 3) == 1 ? 0 : -1;
        }
        for (int i = 1; i <= 60; i++) {
            x.pass(1);
            for (int room = 0; room < rooms; room++) {
                if (seen[room] == -1 && x.room(room, 3) == 1) {
                    seen[room] = i;
                }
            }
        }
        for (int room = 0; room < rooms; room++) {
            due(house + ": alarmIn(" + room + ", 60)", thought[room], seen[room]);
        }
    }

    // ---- promise 28

    private void undo() {
        said(28, "Restores the latest record and removes it.", () -> {
            SmokeGuard x = rooms(3);
            x.addFuel(7);
            x.setDoor(2, 3, true);
            x.undo();
            due("the door is closed again", x.isOpen(2, 3), false);
            due("the fuel is still there", x.info(8), 7);
            x.undo();
            due("the fuel is gone", x.info(8), 0);
            due("there are three rooms", x.info(6), 3);
            x.undo();
            due("there are two rooms", x.info(6), 2);
        });
        said(28, "Returns how many records are left.", () -> {
            for (House house : House.ALL) {
                SmokeGuard x = house.make();
                for (int left = house.records - 1; left >= 0; left--) {
                    due("undo() of " + house, x.undo(), left);
                }
                throwing(STATE, "undo() of " + house + " at last", x::undo);
            }
        });
        said(28, "Throws `IllegalStateException` if there is none", () -> {
            refused(STATE, "undo()", new House[] {House.NEW}, x -> x.undo());
            SmokeGuard x = House.FULL.make();
            for (int i = 0; i < 4; i++) {
                x.undo();
            }
            long before = x.checksum();
            throwing(STATE, "undo() beyond the fourth", x::undo);
            throwing(STATE, "undo() once more", x::undo);
            due("the checksum then", x.checksum(), before);
        });
    }

    // ---- promise 29

    private void checksum() {
        said(29, "Computes a checksum.", () -> {
            due("of two new ones", new SmokeGuard().checksum(), new SmokeGuard().checksum());
            SmokeGuard x = House.FULL.make();
            due("it changes nothing", x.checksum(), x.checksum());
        });
        said(29, "It starts with h = 18750, and for each of the following numbers v, in order, h becomes 31 * h + v "
                + "(long arithmetic that wraps): info() for 0 to 14; for each room the results of room() for 0 to 6, "
                + "and for each other room with a greater number and for R 1 if the door is open, otherwise 0; for "
                + "each sensor the results of sensor() for 0 to 8; applying(); for each event those of event() for 0 "
                + "to 3; told() for 0 to 5; the number of records.", () -> {
            for (House house : House.ALL) {
                SmokeGuard x = house.make();
                due("of " + house, x.checksum(), wrapped(asked(x), house.records));
                x.pass(7);
                due("of " + house + " later", x.checksum(), wrapped(asked(x), Math.min(house.records + 1, 4)));
            }
        });
        said(29, "Returns the checksum.", () -> {
            SmokeGuard x = new SmokeGuard();
            List<Long> numbers = new ArrayList<>();
            for (int v : new int[] {0, 2, 3, 0, 8, 0, 2, 0, 0, 0, 8, 0, 0, 0, 0}) {
                numbers.add((long) v);
            }
            for (int i = 0; i < 7 + 2 + 7 + 1; i++) {
                numbers.add(0L);
            }
            numbers.add(-1L);
            for (int i = 0; i < 6; i++) {
                numbers.add(0L);
            }
            due("of a new one, number by number", x.checksum(), wrapped(numbers, 0));
        });
    }

    /** All the numbers of the checksum but the last, by the other methods. */
    private static List<Long> asked(SmokeGuard x) {
        List<Long> numbers = new ArrayList<>();
        for (int what = 0; what <= 14; what++) {
            numbers.add((long) x.info(what));
        }
        int rooms = x.info(6);
        for (int room = 0; room < rooms; room++) {
            for (int what = 0; what <= 6; what++) {
                numbers.add((long) x.room(room, what));
            }
            for (int other = room + 1; other <= rooms; other++) {
                numbers.add(x.isOpen(room, other) ? 1L : 0L);
            }
        }
        int sensors = x.info(12);
        for (int i = 0; i < sensors * 9; i++) {
            numbers.add((long) x.sensor(i / 9, i % 9));
        }
        numbers.add((long) x.applying());
        int events = x.info(14);
        for (int i = 0; i < events * 4; i++) {
            numbers.add((long) x.event(i / 4, i % 4));
        }
        for (int what = 0; what <= 5; what++) {
            numbers.add((long) x.told(what));
        }
        return numbers;
    }

    /** In whole numbers without a bound, of which the last 64 bits are taken only at the end. */
    private static long wrapped(List<Long> numbers, int records) {
        BigInteger h = BigInteger.valueOf(18750);
        for (long v : numbers) {
            h = h.multiply(BigInteger.valueOf(31)).add(BigInteger.valueOf(v));
        }
        return h.multiply(BigInteger.valueOf(31)).add(BigInteger.valueOf(records)).longValue();
    }
}
