/** The sentences of promises 11 to 19: sensors, rules, events, muting. */
final class PartsSentences extends Sentences {
    PartsSentences(Check check, Document document) {
        super(check, document);
    }

    @Override
    void all() {
        addSensor();
        setFault();
        sensor();
        addRule();
        removeRule();
        applying();
        addEvent();
        addEventNumbers();
        addEventRefusals();
        event();
        mute();
    }

    private void addSensor() { // promise 11
        House[] space = House.WITH_SPACE;
        said(11, "Adds a sensor.", () -> {
            SmokeGuard x = House.BUSY.make();
            x.addSensor(2, 1, 77, 6, 2);
            int[] want = {2, 1, 77, 6, 2, 0, 0};
            for (int what = 0; what < want.length; what++) {
                due("sensor(3, " + what + ")", x.sensor(3, what), want[what]);
            }
            due("info(12)", x.info(12), 4);
        });
        said(11, "Undoable.", () -> undoable("addSensor", space, x -> x.addSensor(0, 2, 1, 0, 3)));
        said(11, "`room`: a room", () -> takesRooms("addSensor", space, (x, v) -> x.addSensor(v, 0, 1, 0, 1)));
        said(11, "`kind`: 0 to 2", () -> taken("addSensor's kind", space, (x, v) -> x.addSensor(0, v, 1, 0, 1), 0, 2));
        said(11, "`threshold`: 1 to 9999",
                () -> taken("addSensor's threshold", space, (x, v) -> x.addSensor(0, 0, v, 0, 1), 1, 9999));
        said(11, "`delay`: 0 to 9",
                () -> taken("addSensor's delay", space, (x, v) -> x.addSensor(0, 0, 1, v, 1), 0, 9));
        said(11, "`weight`: 1 to 3",
                () -> taken("addSensor's weight", space, (x, v) -> x.addSensor(0, 0, 1, 0, v), 1, 3));
        said(11, "Returns its number.", () -> {
            SmokeGuard x = rooms(4);
            for (int i = 0; i < 8; i++) {
                due("addSensor", x.addSensor(i % 4, i % 3, 1 + i, i, 1 + i % 3), i);
            }
            x.undo();
            due("the last one again", x.addSensor(0, 0, 1, 0, 1), 7);
            x.begin(2);
            due("the first one behind begin", x.addSensor(0, 0, 1, 0, 1), 0);
        });
        said(11, "Throws `IndexOutOfBoundsException` if there is no such room",
                () -> refusesNoRoom("addSensor", (x, v) -> x.addSensor(v, 0, 1, 0, 1)));
        said(11, "Throws `IllegalArgumentException` if one of the others is out of range", () -> {
            refusedBeyond(ARGUMENT, "addSensor's kind", 0, 2, (x, v) -> x.addSensor(0, v, 1, 0, 1));
            refusedBeyond(ARGUMENT, "addSensor's threshold", 1, 9999, (x, v) -> x.addSensor(0, 0, v, 0, 1));
            refusedBeyond(ARGUMENT, "addSensor's delay", 0, 9, (x, v) -> x.addSensor(0, 0, 1, v, 1));
            refusedBeyond(ARGUMENT, "addSensor's weight", 1, 3, (x, v) -> x.addSensor(0, 0, 1, 0, v));
        });
        said(11, "Throws `IllegalStateException` if there are 8 sensors", () -> {
            refused(STATE, "a ninth sensor", new House[] {House.FULL}, x -> x.addSensor(0, 0, 1, 0, 1));
            refused(STATE, "a ninth sensor in the last room", new House[] {House.FULL},
                    x -> x.addSensor(3, 2, 9999, 9, 3));
        });
    }

    private void setFault() { // promise 12
        House[] some = House.WITH_SENSORS;
        said(12, "Sets the fault of a sensor.", () -> {
            SmokeGuard x = House.FULL.make();
            for (int i = 0; i < 8; i++) {
                x.setFault(i, (i + 1) % 3);
            }
            for (int i = 0; i < 8; i++) {
                due("the fault of sensor " + i, x.sensor(i, 5), (i + 1) % 3);
            }
        });
        said(12, "Undoable.", () -> undoable("setFault", new House[] {House.BUSY}, x -> x.setFault(2, 2)));
        said(12, "`sensor`: a sensor", () -> {
            taken("setFault of the first", some, x -> x.setFault(0, 1));
            taken("setFault of the last", some, x -> x.setFault(x.info(12) - 1, 1));
        });
        said(12, "`fault`: 0 to 2", () -> taken("setFault(0, ..)", some, (x, v) -> x.setFault(0, v), 0, 2));
        said(12, "Returns the previous one.", () -> {
            SmokeGuard x = House.BUSY.make();
            int before = 0;
            for (int fault : new int[] {2, 2, 1, 0, 0, 1, 2, 0}) {
                due("setFault(1, " + fault + ")", x.setFault(1, fault), before);
                before = fault;
            }
        });
        said(12, "Throws `IndexOutOfBoundsException` if there is no such sensor",
                () -> refusesNoSensor("setFault", (x, v) -> x.setFault(v, 0)));
        said(12, "Throws `IllegalArgumentException` if fault is out of range",
                () -> refusedBeyond(ARGUMENT, "setFault(0, ..)", some, 0, 2, (x, v) -> x.setFault(0, v)));
    }

    private void sensor() { // promise 13
        House[] some = House.WITH_SENSORS;
        said(13, "Returns something about a sensor.", () -> {
            SmokeGuard x = rooms(4);
            for (int i = 0; i < 8; i++) {
                x.addSensor(i % 4, 0, 100 + i, 9 - i, 1 + i % 3);
            }
            for (int i = 0; i < 8; i++) {
                int[] want = {i % 4, 0, 100 + i, 9 - i, 1 + i % 3, 0, 0, 0, 0};
                about(x, i, want);
            }
        });
        said(13, "`sensor`: a sensor", () -> {
            for (int k = 0; k <= 8; k++) {
                int what = k;
                taken("sensor(0, " + k + ")", some, x -> x.sensor(0, what));
                taken("sensor(last, " + k + ")", some, x -> x.sensor(x.info(12) - 1, what));
            }
        });
        said(13, "`what`: 0 its room, 1 its kind, 2 its threshold, 3 its delay, 4 its weight, 5 its fault, 6 its "
                + "count, 7 whether it is excited now (0 or 1), 8 whether it votes (0 or 1)", () -> {
            SmokeGuard x = new SmokeGuard();
            x.addSensor(1, 0, 44, 2, 3);
            about(x, 0, 1, 0, 44, 2, 3, 0, 0, 0, 0);
            x.setSmoke(1, 44);
            about(x, 0, 1, 0, 44, 2, 3, 0, 0, 1, 0);
            x.pass(2);
            about(x, 0, 1, 0, 44, 2, 3, 0, 2, 1, 0);
            x.pass(1);
            about(x, 0, 1, 0, 44, 2, 3, 0, 3, 1, 1);
            x.setSmoke(1, 43);
            about(x, 0, 1, 0, 44, 2, 3, 0, 3, 0, 1);
            x.setFault(0, 1);
            about(x, 0, 1, 0, 44, 2, 3, 1, 3, 0, 0);
            x.setFault(0, 2);
            x.pass(1);
            about(x, 0, 1, 0, 44, 2, 3, 2, 0, 0, 1);
        });
        said(13, "Returns that number.", () -> {
            SmokeGuard x = new SmokeGuard();
            x.addSensor(0, 0, 1, 0, 1);
            x.addSensor(1, 2, 9999, 9, 3);
            about(x, 0, 0, 0, 1, 0, 1, 0, 0, 0, 0);
            about(x, 1, 1, 2, 9999, 9, 3, 0, 0, 0, 0);
            x.setSmoke(0, 1);
            x.pass(60);
            x.pass(60);
            about(x, 0, 0, 0, 1, 0, 1, 0, 99, 1, 1);
        });
        said(13, "Throws `IndexOutOfBoundsException` if there is no such sensor", () -> {
            for (int k = 0; k <= 8; k++) {
                int what = k;
                refusesNoSensor("sensor(.., " + k + ")", (x, v) -> x.sensor(v, what));
            }
        });
        said(13, "Throws `IllegalArgumentException` if what is not 0 to 8",
                () -> refusedBeyond(ARGUMENT, "sensor(0, ..)", some, 0, 8, (x, v) -> x.sensor(0, v)));
    }

    private void about(SmokeGuard x, int sensor, int... want) {
        for (int what = 0; what < want.length; what++) {
            due("sensor(" + sensor + ", " + what + ")", x.sensor(sensor, what), want[what]);
        }
    }

    private void addRule() { // promise 14
        House[] space = House.WITH_SPACE;
        said(14, "Adds a rule behind the others.", () -> {
            SmokeGuard x = new SmokeGuard();
            x.addRule(3, 0, 0, 6);
            x.addRule(3, 0, 0, 5);
            due("both apply", x.applying(), 0);
            x.pass(1);
            due("the first one's opening", x.info(10), 6);
            x.removeRule(0);
            x.pass(1);
            due("the second one's opening", x.info(10), 5);
        });
        said(14, "Undoable.", () -> undoable("addRule", space, x -> x.addRule(0, 0, 0, 1)));
        said(14, "`kind`: 0 to 3", () -> taken("addRule's kind", space, (x, v) -> x.addRule(v, 0, 0, 0), 0, 3));
        said(14, "`room`: a room", () -> {
            for (int k = 0; k <= 3; k++) {
                int kind = k;
                takesRooms("addRule of kind " + k, space, (x, v) -> x.addRule(kind, v, 0, 0));
            }
        });
        said(14, "`limit`: 0 to 9999", () -> taken("addRule's limit", space, (x, v) -> x.addRule(0, 0, v, 0), 0, 9999));
        said(14, "`opening`: 0 to 8", () -> taken("addRule's opening", space, (x, v) -> x.addRule(0, 0, 0, v), 0, 8));
        said(14, "Returns its number.", () -> {
            SmokeGuard x = rooms(4);
            for (int i = 0; i < 8; i++) {
                due("addRule", x.addRule(i % 4, i % 4, i, i), i);
            }
            x.removeRule(0);
            due("the last one again", x.addRule(0, 0, 0, 0), 7);
            x.begin(2);
            due("the first one behind begin", x.addRule(0, 0, 0, 0), 0);
        });
        said(14, "Throws `IndexOutOfBoundsException` if there is no such room", () -> {
            for (int k = 0; k <= 3; k++) {
                int kind = k;
                refusesNoRoom("addRule of kind " + k, (x, v) -> x.addRule(kind, v, 0, 0));
            }
        });
        said(14, "Throws `IllegalArgumentException` if one of the others is out of range", () -> {
            refusedBeyond(ARGUMENT, "addRule's kind", 0, 3, (x, v) -> x.addRule(v, 0, 0, 0));
            for (int k = 0; k <= 3; k++) {
                int kind = k;
                refusedBeyond(ARGUMENT, "limit of kind " + k, 0, 9999, (x, v) -> x.addRule(kind, 0, v, 0));
            }
            refusedBeyond(ARGUMENT, "addRule's opening", 0, 8, (x, v) -> x.addRule(0, 0, 0, v));
        });
        said(14, "Throws `IllegalStateException` if there are 8 rules", () -> {
            refused(STATE, "a ninth rule", new House[] {House.FULL}, x -> x.addRule(0, 0, 0, 0));
            refused(STATE, "a ninth rule for the last room", new House[] {House.FULL}, x -> x.addRule(3, 3, 9999, 8));
        });
    }

    /** Eight rules; the one numbered i looks at room i % 4 and gives the opening i. */
    private static SmokeGuard stairs() {
        SmokeGuard x = rooms(4);
        for (int i = 0; i < 8; i++) {
            x.addRule(0, i % 4, i < 4 ? 20 : 10, i);
        }
        return x;
    }

    private void removeRule() { // promise 15
        said(15, "Removes a rule; those behind it move up.", () -> {
            for (int removed = 0; removed < 8; removed++) {
                SmokeGuard x = stairs();
                x.removeRule(removed);
                for (int i = 0; i < 8; i++) {
                    x.setSmoke(i % 4, i < 4 ? 20 : 10);
                    int first = i == removed ? i + 4 : i; // the next one of the same room stands in
                    boolean isThere = first < 8;
                    due(removed + " removed, what was rule " + first, x.applying(),
                            !isThere ? -1 : first > removed ? first - 1 : first);
                    x.setTarget(8);
                    x.pass(1);
                    due("its opening", x.info(10), isThere ? first : 8);
                    x.setSmoke(i % 4, 0);
                }
            }
            SmokeGuard kinds = new SmokeGuard();
            kinds.addRule(0, 0, 0, 0);
            kinds.addRule(2, 0, 0, 0);
            kinds.addRule(1, 0, 0, 0);
            kinds.addRule(3, 0, 0, 0);
            kinds.removeRule(0);
            due("the last one, without a fire, is the third", kinds.applying(), 2);
        });
        said(15, "Undoable.", () -> {
            for (int rule = 0; rule < 2; rule++) {
                int removed = rule;
                undoable("removeRule(" + rule + ")", new House[] {House.BUSY}, x -> x.removeRule(removed));
            }
        });
        said(15, "`rule`: a rule", () -> {
            taken("removeRule of the first", House.WITH_SENSORS, x -> x.removeRule(0));
            taken("removeRule of the last", House.WITH_SENSORS, x -> x.removeRule(x.info(13) - 1));
        });
        said(15, "Returns the number of rules then.", () -> {
            SmokeGuard x = stairs();
            for (int left = 7; left >= 0; left--) {
                due("removeRule", x.removeRule(left / 2), left);
                due("info(13)", x.info(13), left);
            }
        });
        said(15, "Throws `IndexOutOfBoundsException` if there is no such rule",
                () -> refusesNoRule("removeRule", SmokeGuard::removeRule));
    }

    private void applying() { // promise 16
        said(16, "Returns the first rule that applies now.", () -> {
            SmokeGuard x = stairs();
            for (int i = 7; i >= 0; i--) {
                x.setSmoke(i % 4, i < 4 ? 20 : 10);
                due("those from " + i + " on apply", x.applying(), i);
            }
            due("the question moves nothing", x.info(10), 8);
        });
        said(16, "Returns its number; NONE if none does.", () -> {
            due("no rules", new SmokeGuard().applying(), -1);
            SmokeGuard x = stairs();
            x.setSmoke(3, 9);
            due("none of eight", x.applying(), -1);
            x.setSmoke(3, 10);
            due("the last of eight", x.applying(), 7);
            x.setSmoke(0, 20);
            due("the first of eight", x.applying(), 0);
        });
    }

    private void addEvent() { // promise 17
        House[] space = House.WITH_SPACE;
        said(17, "Adds an event.", () -> {
            SmokeGuard x = new SmokeGuard();
            x.addEvent(7, 1, 33, 0);
            int[] want = {7, 1, 33, 0};
            for (int what = 0; what < 4; what++) {
                due("event(0, " + what + ")", x.event(0, what), want[what]);
            }
            due("nothing comes before its minute", x.info(8), 0);
        });
        said(17, "Undoable.", () -> undoable("addEvent", space, x -> x.addEvent(x.info(7) + 1, 1, 200, 0)));
        said(17, "`minute`: its minute, greater than t, at most t + 999",
                () -> taken("addEvent in t + ..", space, (x, v) -> x.addEvent(x.info(7) + v, 4, 0, 0), 1, 999));
        said(17, "`kind`: 0 to 4", () -> {
            taken("kind 0", space, x -> x.addEvent(x.info(7) + 1, 0, 0, x.info(6)));
            taken("kind 4", space, x -> x.addEvent(x.info(7) + 1, 4, 0, 0));
        });
        said(17, "Returns the number of events that have not come yet.", () -> {
            SmokeGuard x = new SmokeGuard();
            for (int i = 1; i <= 20; i++) {
                due("addEvent", x.addEvent(i <= 15 ? 2 : 3, 4, 0, 0), i);
            }
            x.pass(2);
            due("addEvent when 15 have come", x.addEvent(3, 4, 0, 0), 6);
            x.pass(1);
            due("addEvent when all have come", x.addEvent(4, 4, 0, 0), 1);
        });
    }

    private static long add(SmokeGuard x, int kind, int a, int b) {
        return x.addEvent(x.info(7) + 1, kind, a, b);
    }

    private void addEventNumbers() {
        House[] space = House.WITH_SPACE;
        House[] some = {House.BUSY};
        said(17, "`a`: the number a: for kind 0 a room, for 1 1 to 200, for 2 0 to 60, for 3 a sensor, for 4 0", () -> {
            takesRooms("a of kind 0", space, (x, v) -> add(x, 0, v, x.info(6)));
            taken("a of kind 1", space, (x, v) -> add(x, 1, v, 0), 1, 200);
            taken("a of kind 2", space, (x, v) -> add(x, 2, v, 0), 0, 60);
            taken("a of kind 3, the first", some, x -> add(x, 3, 0, 0));
            taken("a of kind 3, the last", some, x -> add(x, 3, x.info(12) - 1, 0));
            taken("a of kind 4", space, (x, v) -> add(x, 4, v, 0), 0);
        });
        said(17, "`b`: the number b: for kind 0 another room, or R, for 3 0 to 2, for others 0", () -> {
            taken("b of kind 0, R", space, x -> add(x, 0, 0, x.info(6)));
            taken("b of kind 0, R - 1", some, x -> add(x, 0, 0, x.info(6) - 1));
            taken("b of kind 0, the first", some, x -> add(x, 0, x.info(6) - 1, 0));
            taken("b of kind 3", some, (x, v) -> add(x, 3, 0, v), 0, 2);
            taken("b of kind 1", space, (x, v) -> add(x, 1, 1, v), 0);
            taken("b of kind 2", space, (x, v) -> add(x, 2, 0, v), 0);
            taken("b of kind 4", space, (x, v) -> add(x, 4, 0, v), 0);
        });
    }

    private void addEventRefusals() {
        said(17, "Throws `IllegalArgumentException` if minute or kind is out of range, or a or b is not as described",
                () -> {
            refused(ARGUMENT, "minute t", x -> x.addEvent(x.info(7), 4, 0, 0));
            refused(ARGUMENT, "minute t - 1", x -> x.addEvent(x.info(7) - 1, 4, 0, 0));
            refused(ARGUMENT, "minute t + 1000", x -> x.addEvent(x.info(7) + 1000, 4, 0, 0));
            refused(ARGUMENT, "the least minute", x -> x.addEvent(Integer.MIN_VALUE, 4, 0, 0));
            refused(ARGUMENT, "the greatest minute", x -> x.addEvent(Integer.MAX_VALUE, 4, 0, 0));
            refusedBeyond(ARGUMENT, "kind", 0, 4, (x, v) -> add(x, v, 0, 0));
            refused(ARGUMENT, "kind 0: a is R", x -> add(x, 0, x.info(6), 0));
            refusedBeyond(ARGUMENT, "kind 0: a", 0, 4, (x, v) -> add(x, 0, v, 0));
            refused(ARGUMENT, "kind 0: b is R + 1", x -> add(x, 0, 0, x.info(6) + 1));
            refusedBeyond(ARGUMENT, "kind 0: b", 0, 4, (x, v) -> add(x, 0, 0, v));
            refused(ARGUMENT, "kind 0: both are 0", x -> add(x, 0, 0, 0));
            refused(ARGUMENT, "kind 0: both are R - 1", x -> add(x, 0, x.info(6) - 1, x.info(6) - 1));
            refused(ARGUMENT, "kind 0: both are R", x -> add(x, 0, x.info(6), x.info(6)));
            refusedBeyond(ARGUMENT, "kind 1: a", 1, 200, (x, v) -> add(x, 1, v, 0));
            refusedBeyond(ARGUMENT, "kind 1: b", 0, 0, (x, v) -> add(x, 1, 1, v));
            refusedBeyond(ARGUMENT, "kind 2: a", 0, 60, (x, v) -> add(x, 2, v, 0));
            refusedBeyond(ARGUMENT, "kind 2: b", 0, 0, (x, v) -> add(x, 2, 0, v));
            refused(ARGUMENT, "kind 3: a is the first beyond", x -> add(x, 3, x.info(12), 0));
            refusedBeyond(ARGUMENT, "kind 3: a", 0, 7, (x, v) -> add(x, 3, v, 0));
            refusedBeyond(ARGUMENT, "kind 3: b", 0, 2, (x, v) -> add(x, 3, 0, v));
            refusedBeyond(ARGUMENT, "kind 4: a", 0, 0, (x, v) -> add(x, 4, v, 0));
            refusedBeyond(ARGUMENT, "kind 4: b", 0, 0, (x, v) -> add(x, 4, 0, v));
        });
        said(17, "Throws `IllegalStateException` if there are 20", () -> {
            House[] full = {House.FULL};
            refused(STATE, "a 21st event", full, x -> x.addEvent(x.info(7) + 1, 4, 0, 0));
            refused(STATE, "a 21st event at last", full, x -> x.addEvent(x.info(7) + 999, 0, 3, 4));
        });
    }

    private void event() { // promise 18
        said(18, "Returns something about an event that has not come yet, in the order in which they will come.",
                () -> {
            SmokeGuard x = new SmokeGuard();
            x.addSensor(0, 0, 1, 0, 1);
            int[][] events = {{999, 4, 0, 0}, {5, 0, 1, 2}, {3, 1, 77, 0}, {5, 2, 33, 0}, {4, 3, 0, 2}, {3, 2, 44, 0},
                {5, 0, 0, 1}, {1, 1, 1, 0}, {3, 0, 1, 0}};
            int[] order = {7, 2, 5, 8, 4, 1, 3, 6, 0};
            for (int[] e : events) {
                x.addEvent(e[0], e[1], e[2], e[3]);
            }
            comeInOrder(x, events, order);
            x.pass(4);
            comeInOrder(x, events, 1, 3, 6, 0);
            x.addEvent(6, 2, 5, 0);
            x.addEvent(5, 2, 6, 0);
            due("behind those of its minute", x.event(3, 2), 6);
            due("before those of later minutes", x.event(4, 2), 5);
        });
        said(18, "`k`: its place, from 0", () -> {
            SmokeGuard x = House.FULL.make();
            due("the first of a full one", x.event(0, 0), 4);
            due("the last of a full one", x.event(19, 0), 1002);
        });
        said(18, "`what`: 0 its minute, 1 its kind, 2 its number a, 3 its number b", () -> {
            SmokeGuard x = new SmokeGuard();
            x.addSensor(0, 0, 1, 0, 1);
            x.addSensor(0, 0, 1, 0, 1);
            int[][] events = {{1, 0, 1, 2}, {2, 1, 200, 0}, {3, 2, 60, 0}, {4, 3, 1, 2}, {999, 4, 0, 0}};
            for (int[] e : events) {
                x.addEvent(e[0], e[1], e[2], e[3]);
            }
            comeInOrder(x, events, 0, 1, 2, 3, 4);
        });
        said(18, "Returns that number; NONE if there is no such event (also if k is negative).", () -> {
            for (House house : House.ALL) {
                SmokeGuard x = house.make();
                for (int k : new int[] {-1, x.info(14), 20, Integer.MIN_VALUE, Integer.MAX_VALUE}) {
                    for (int what = 0; what <= 3; what++) {
                        due("event(" + k + ", " + what + ") of " + house, x.event(k, what), -1);
                    }
                }
            }
        });
        said(18, "Throws `IllegalArgumentException` if what is not 0 to 3", () -> {
            for (int k : new int[] {-1, 0, 19, 20}) {
                refusedBeyond(ARGUMENT, "event(" + k + ", ..)", 0, 3, (x, v) -> x.event(k, v));
            }
        });
    }

    private void comeInOrder(SmokeGuard x, int[][] events, int... order) {
        due("info(14)", x.info(14), order.length);
        for (int i = 0; i < order.length * 4; i++) {
            due("event(" + i / 4 + ", " + i % 4 + ")", x.event(i / 4, i % 4), events[order[i / 4]][i % 4]);
        }
    }

    private void mute() { // promise 19
        said(19, "Mutes a room: its rest of muting becomes a number of minutes.", () -> {
            SmokeGuard x = rooms(4);
            x.mute(3, 60);
            x.mute(0, 1);
            due("room 3", x.room(3, 2), 60);
            due("room 0", x.room(0, 2), 1);
            due("room 1", x.room(1, 2), 0);
            x.mute(3, 5);
            due("room 3 by another number", x.room(3, 2), 5);
            x.mute(3, 0);
            due("room 3 by 0", x.room(3, 2), 0);
        });
        said(19, "Undoable.", () -> undoable("mute", House.WITH_SPACE, x -> x.mute(x.info(6) - 1, 9)));
        said(19, "`room`: a room", () -> takesRooms("mute", House.ALL, (x, v) -> x.mute(v, 5)));
        said(19, "`minutes`: 0 to 60", () -> taken("mute(0, ..)", House.ALL, (x, v) -> x.mute(0, v), 0, 60));
        said(19, "Returns the previous rest of muting.", () -> {
            SmokeGuard x = new SmokeGuard();
            int before = 0;
            for (int minutes : new int[] {60, 60, 1, 0, 0, 7}) {
                due("mute(1, " + minutes + ")", x.mute(1, minutes), before);
                before = minutes;
            }
            x.pass(3);
            due("when three minutes have passed", x.mute(1, 0), 4);
            due("another room's", x.mute(0, 0), 0);
        });
        said(19, "Throws `IndexOutOfBoundsException` if there is no such room",
                () -> refusesNoRoom("mute", (x, v) -> x.mute(v, 0)));
        said(19, "Throws `IllegalArgumentException` if minutes is out of range",
                () -> refusedBeyond(ARGUMENT, "mute(0, ..)", 0, 60, (x, v) -> x.mute(0, v)));
    }
}
