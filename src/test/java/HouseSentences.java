/** The sentences of promises 1 to 10: the house. */
final class HouseSentences extends Sentences {
    HouseSentences(Check check, Document document) {
        super(check, document);
    }

    @Override
    void all() {
        newObject();
        begin();
        setDoor();
        isOpen();
        addFuel();
        setTarget();
        set();
        setSmoke();
        info();
        room();
    }

    private void newObject() { // promise 1
        said(1, "Creates two rooms with the initial settings, without sensors, rules and events.", () -> {
            SmokeGuard x = new SmokeGuard();
            isAsAtFirst(x, 2);
            throwing(STATE, "no record", x::undo);
        });
    }

    private void isAsAtFirst(SmokeGuard x, int rooms) {
        int[] first = {0, 2, 3, 0, 8, 0, rooms, 0, 0, 0, 8, 0, 0, 0, 0};
        for (int what = 0; what < first.length; what++) {
            due("info(" + what + ")", x.info(what), first[what]);
        }
        for (int i = 0; i < rooms * 7; i++) {
            due("room(" + i / 7 + ", " + i % 7 + ")", x.room(i / 7, i % 7), 0);
        }
        for (int one = 0; one <= rooms; one++) {
            for (int other = 0; other <= rooms; other++) {
                due("isOpen(" + one + ", " + other + ")", x.isOpen(one, other), false);
            }
        }
        for (int what = 0; what <= 5; what++) {
            due("told(" + what + ")", x.told(what), 0);
        }
        throwing(INDEX, "no room R", () -> x.room(rooms, 0));
        throwing(INDEX, "no sensor", () -> x.sensor(0, 0));
        throwing(INDEX, "no rule", () -> x.removeRule(0));
        due("no rule applies", x.applying(), -1);
        due("no event", x.event(0, 0), -1);
    }

    private void begin() { // promise 2
        said(2, "Begins anew: everything is as at first (also t), with some rooms.", () -> {
            for (House house : House.ALL) {
                for (int rooms = 1; rooms <= 4; rooms++) {
                    SmokeGuard x = house.make();
                    x.set(3, 1);
                    x.begin(rooms);
                    isAsAtFirst(x, rooms);
                    due(house + " begun with " + rooms + " rooms", used(x, rooms), used(new SmokeGuard(), rooms));
                }
            }
        });
        said(2, "Undoable.", () -> undoable("begin(4)", House.WITH_SPACE, x -> x.begin(4)));
        said(2, "`rooms`: R, 1 to 4", () -> {
            taken("begin", House.ALL, SmokeGuard::begin, 1, 4);
            for (int rooms = 1; rooms <= 4; rooms++) {
                due("R", rooms(rooms).info(6), rooms);
            }
        });
        said(2, "Returns the previous R.", () -> {
            SmokeGuard x = new SmokeGuard();
            int before = 2;
            for (int rooms : new int[] {1, 4, 1, 1, 3, 2, 2, 4, 4}) {
                due("begin(" + rooms + ")", x.begin(rooms), before);
                before = rooms;
            }
        });
        said(2, "Throws `IllegalArgumentException` if rooms is out of range",
                () -> refusedBeyond(ARGUMENT, "begin", 1, 4, SmokeGuard::begin));
    }

    /** The checksum, with four records, when some of each has been added behind begin and minutes have passed. */
    private static long used(SmokeGuard x, int rooms) {
        x.begin(rooms);
        x.addSensor(0, 0, 5, 0, 1);
        x.addSensor(rooms - 1, 2, 5, 1, 2);
        x.addRule(2, 0, 0, 3);
        x.addEvent(2, 0, 0, rooms);
        x.addFuel(90);
        x.pass(4);
        return x.checksum();
    }

    private void setDoor() { // promise 3
        said(3, "Opens or closes a door.", () -> {
            SmokeGuard x = rooms(4);
            x.setDoor(1, 3, true);
            due("opened", x.isOpen(1, 3), true);
            x.setDoor(3, 1, false);
            due("closed by its numbers the other way round", x.isOpen(1, 3), false);
            x.setDoor(4, 0, true);
            due("opened by its numbers the other way round", x.isOpen(0, 4), true);
        });
        said(3, "Undoable.", () -> undoable("setDoor", House.WITH_SPACE, x -> number(x.setDoor(0, x.info(6), true))));
        said(3, "`one`: a room, or R for the outside",
                () -> takesDoors("setDoor", House.ALL, (x, one, other) -> x.setDoor(one, other, true)));
        said(3, "`other`: another one",
                () -> takesDoors("setDoor", House.ALL, (x, other, one) -> x.setDoor(one, other, false)));
        said(3, "`open`: whether it is open then", () -> {
            SmokeGuard x = new SmokeGuard();
            for (boolean open : new boolean[] {false, true, true, false, false}) {
                x.setDoor(0, 1, open);
                due("isOpen", x.isOpen(0, 1), open);
            }
        });
        said(3, "Returns whether it was open.", () -> {
            SmokeGuard x = new SmokeGuard();
            boolean before = false;
            for (boolean open : new boolean[] {false, true, true, false, false, true}) {
                due("setDoor", x.setDoor(2, 0, open), before);
                before = open;
            }
            due("another door", x.setDoor(2, 1, true), false);
        });
        said(3, "Throws `IndexOutOfBoundsException` if one of them is not 0 to R", () -> {
            refusesNoPlace("setDoor's one", (x, v) -> number(x.setDoor(v, 0, true)));
            refusesNoPlace("setDoor's other", (x, v) -> number(x.setDoor(0, v, true)));
        });
        said(3, "Throws `IllegalArgumentException` if both are the same", () -> {
            for (boolean open : new boolean[] {false, true}) {
                refused(ARGUMENT, "setDoor(0, 0)", x -> number(x.setDoor(0, 0, open)));
                refused(ARGUMENT, "setDoor(R - 1, R - 1)",
                        x -> number(x.setDoor(x.info(6) - 1, x.info(6) - 1, open)));
                refused(ARGUMENT, "setDoor(R, R)", x -> number(x.setDoor(x.info(6), x.info(6), open)));
            }
        });
    }

    private void isOpen() { // promise 4
        said(4, "Tells whether a door is open.", () -> {
            SmokeGuard x = new SmokeGuard();
            due("closed", x.isOpen(0, 1), false);
            x.setDoor(0, 1, true);
            due("open", x.isOpen(0, 1), true);
            due("open, the other way round", x.isOpen(1, 0), true);
        });
        said(4, "`one`: a room, or R for the outside",
                () -> takesDoors("isOpen", House.ALL, (x, one, other) -> x.isOpen(one, other)));
        said(4, "`other`: another one",
                () -> takesDoors("isOpen", House.ALL, (x, other, one) -> x.isOpen(one, other)));
        said(4, "Returns whether it is (false if both are the same).", () -> {
            for (House house : House.ALL) {
                SmokeGuard x = house.make();
                for (int one = 0; one <= x.info(6); one++) {
                    due("isOpen(" + one + ", " + one + ") of " + house, x.isOpen(one, one), false);
                }
            }
            SmokeGuard full = House.FULL.make();
            due("the first door", full.isOpen(0, 1), true);
            due("the last door", full.isOpen(3, 4), true);
        });
        said(4, "Throws `IndexOutOfBoundsException` if one of them is not 0 to R", () -> {
            refusesNoPlace("isOpen's one", (x, v) -> number(x.isOpen(v, 0)));
            refusesNoPlace("isOpen's other", (x, v) -> number(x.isOpen(0, v)));
            refusesNoPlace("isOpen's both", (x, v) -> number(x.isOpen(v, v)));
        });
    }

    private void addFuel() { // promise 5
        said(5, "Adds fuel.", () -> {
            SmokeGuard x = new SmokeGuard();
            x.addFuel(30);
            x.addFuel(12);
            due("info(8)", x.info(8), 42);
            due("nothing else burns", x.info(5), 0);
        });
        said(5, "Undoable.", () -> undoable("addFuel(9)", House.WITH_SPACE, x -> x.addFuel(9)));
        said(5, "`fuel`: 1 to 200", () -> taken("addFuel", House.ALL, SmokeGuard::addFuel, 1, 200));
        said(5, "Returns the fuel then (at most 200).", () -> {
            int[][] sums = {{0, 1, 1}, {0, 200, 200}, {1, 198, 199}, {1, 199, 200}, {1, 200, 200}, {199, 1, 200},
                {199, 2, 200}, {200, 1, 200}, {200, 200, 200}};
            for (int[] s : sums) {
                SmokeGuard x = new SmokeGuard();
                if (s[0] > 0) {
                    x.addFuel(s[0]);
                }
                due(s[0] + " and " + s[1], x.addFuel(s[1]), s[2]);
                due("info(8)", x.info(8), s[2]);
            }
        });
        said(5, "Throws `IllegalArgumentException` if fuel is out of range",
                () -> refusedBeyond(ARGUMENT, "addFuel", 1, 200, SmokeGuard::addFuel));
    }

    private void setTarget() { // promise 6
        said(6, "Sets the target of the damper.", () -> {
            SmokeGuard x = new SmokeGuard();
            x.setTarget(3);
            due("the target", x.info(10), 3);
            due("the opening is as before", x.info(4), 8);
        });
        said(6, "Undoable.", () -> undoable("setTarget(1)", House.WITH_SPACE, x -> x.setTarget(1)));
        said(6, "`opening`: 0 to 8", () -> taken("setTarget", House.ALL, SmokeGuard::setTarget, 0, 8));
        said(6, "Returns the previous target.", () -> {
            SmokeGuard x = new SmokeGuard();
            int before = 8;
            for (int opening : new int[] {0, 8, 8, 3, 0, 0}) {
                due("setTarget(" + opening + ")", x.setTarget(opening), before);
                before = opening;
            }
        });
        said(6, "Throws `IllegalArgumentException` if opening is out of range",
                () -> refusedBeyond(ARGUMENT, "setTarget", 0, 8, SmokeGuard::setTarget));
    }

    private static final int[] LEAST = {0, 2, 0, 0, 0, 0};
    private static final int[] MOST = {60, 9, 30, 1, 8, 999};

    private void set() { // promise 7
        said(7, "Sets something.", () -> {
            for (int what = 0; what <= 5; what++) {
                SmokeGuard x = new SmokeGuard();
                SmokeGuard fresh = new SmokeGuard();
                int value = what == 3 ? 1 : 5;
                x.set(what, value);
                for (int other = 0; other <= 14; other++) {
                    boolean isDraft = other == 11 && what == 5;
                    due("info(" + other + ") when " + what + " is set", x.info(other),
                            other == what || isDraft ? value : fresh.info(other));
                }
            }
        });
        said(7, "Undoable.", () -> {
            for (int k = 0; k <= 5; k++) {
                int what = k;
                undoable("set(" + k + ")", House.WITH_SPACE, x -> x.set(what, what == 3 ? 1 : 7));
            }
        });
        said(7, "`what`: 0 the wind, 1 the quorum, 2 the hold, 3 whether the damper is jammed (0 or 1), 4 the opening "
                + "of the damper (jammed or not), 5 the warmth", () -> {
            SmokeGuard x = new SmokeGuard();
            x.set(5, 50);
            x.set(0, 8);
            due("draft by warmth and wind", x.info(11), 42);
            x.set(4, 4);
            due("draft by the opening", x.info(11), 17);
            x.set(3, 1);
            x.set(4, 0);
            due("the opening of a jammed damper", x.info(4), 0);
            x.pass(1);
            due("which does not move", x.info(4), 0);
            x.set(3, 0);
            x.pass(1);
            due("when it is not jammed it does", x.info(4), 1);
            x.set(4, 8);
            due("the opening of a free one", x.info(4), 8);
        });
        said(7, "`value`: the new value", () -> {
            for (int k = 0; k <= 5; k++) {
                int what = k;
                taken("set(" + k + ")", House.ALL, (x, v) -> x.set(what, v), LEAST[k], MOST[k]);
                SmokeGuard x = new SmokeGuard();
                x.set(k, MOST[k]);
                due("the most", x.info(k), MOST[k]);
                x.set(k, LEAST[k]);
                due("the least", x.info(k), LEAST[k]);
            }
        });
        said(7, "Returns the previous one.", () -> {
            int[] first = {0, 2, 3, 0, 8, 0};
            for (int what = 0; what <= 5; what++) {
                SmokeGuard x = new SmokeGuard();
                due("at first", x.set(what, MOST[what]), first[what]);
                due("the most", x.set(what, LEAST[what]), MOST[what]);
                due("the least", x.set(what, LEAST[what]), LEAST[what]);
            }
        });
        said(7, "Throws `IllegalArgumentException` if what or value is out of range", () -> {
            for (int value : new int[] {0, 1, 2}) {
                refusedBeyond(ARGUMENT, "set(.., " + value + ")", 0, 5, (x, v) -> x.set(v, value));
            }
            for (int k = 0; k <= 5; k++) {
                int what = k;
                refusedBeyond(ARGUMENT, "set(" + k + ", ..)", LEAST[k], MOST[k], (x, v) -> x.set(what, v));
            }
        });
    }

    private void setSmoke() { // promise 8
        said(8, "Sets the smoke of a room.", () -> {
            SmokeGuard x = rooms(4);
            for (int room = 0; room < 4; room++) {
                x.setSmoke(room, 10 + room);
            }
            for (int room = 0; room < 4; room++) {
                due("the smoke of room " + room, x.room(room, 0), 10 + room);
            }
        });
        said(8, "Undoable.", () -> undoable("setSmoke", House.WITH_SPACE, x -> x.setSmoke(x.info(6) - 1, 321)));
        said(8, "`room`: a room", () -> takesRooms("setSmoke", House.ALL, (x, v) -> x.setSmoke(v, 5)));
        said(8, "`smoke`: 0 to 99999", () -> {
            taken("setSmoke(0, ..)", House.ALL, (x, v) -> x.setSmoke(0, v), 0, 99999);
            SmokeGuard x = new SmokeGuard();
            x.setSmoke(0, 99999);
            due("the most", x.room(0, 0), 99999);
            x.setSmoke(0, 0);
            due("the least", x.room(0, 0), 0);
        });
        said(8, "Returns the previous smoke.", () -> {
            SmokeGuard x = new SmokeGuard();
            int before = 0;
            for (int smoke : new int[] {99999, 99999, 0, 0, 1}) {
                due("setSmoke(1, " + smoke + ")", x.setSmoke(1, smoke), before);
                before = smoke;
            }
            due("another room's", x.setSmoke(0, 1), 0);
        });
        said(8, "Throws `IndexOutOfBoundsException` if there is no such room",
                () -> refusesNoRoom("setSmoke", (x, v) -> x.setSmoke(v, 0)));
        said(8, "Throws `IllegalArgumentException` if smoke is out of range",
                () -> refusedBeyond(ARGUMENT, "setSmoke(0, ..)", 0, 99999, (x, v) -> x.setSmoke(0, v)));
    }

    private void info() { // promise 9
        said(9, "Returns a number.", () -> {
            for (House house : House.ALL) {
                SmokeGuard x = house.make();
                SmokeGuard y = house.make();
                for (int what = 0; what <= 14; what++) {
                    x.info(what);
                }
                due("all numbers of " + house + " change nothing", x.checksum(), y.checksum());
            }
        });
        said(9, "`what`: 0 to 5 as for set(), 6 R, 7 t, 8 the fuel, 9 the strength of the fire, 10 the target, 11 the "
                + "draft, 12 the number of sensors, 13 of rules, 14 of events that have not come yet", () -> {
            SmokeGuard x = rooms(3);
            int[] settings = {12, 5, 9, 1, 6, 200};
            for (int what = 0; what <= 5; what++) {
                x.set(what, settings[what]);
                due("info(" + what + ")", x.info(what), settings[what]);
            }
            x.addFuel(120);
            x.setTarget(2);
            x.addSensor(0, 0, 1, 0, 1);
            x.addRule(0, 0, 9999, 0);
            x.addRule(0, 0, 9999, 0);
            for (int minute = 1; minute <= 3; minute++) {
                x.addEvent(minute, 2, 12, 0);
            }
            int[] then = {3, 0, 120, 5, 2, 138, 1, 2, 3};
            for (int what = 6; what <= 14; what++) {
                due("info(" + what + ")", x.info(what), then[what - 6]);
            }
            x.pass(1);
            due("t", x.info(7), 1);
            due("the events that have not come yet", x.info(14), 2);
        });
        said(9, "Returns that number.", () -> {
            SmokeGuard x = House.FULL.make();
            int[] full = {60, 9, 30, 0, x.info(4), 999, 4, 3, 200, 9, x.info(10), x.info(11), 8, 8, 20};
            for (int what = 0; what <= 14; what++) {
                due("info(" + what + ") of a full one", x.info(what), full[what]);
            }
            due("the draft of a full one", x.info(11), 999 * x.info(4) / 8 - 60);
        });
        said(9, "Throws `IllegalArgumentException` if what is not 0 to 14",
                () -> refusedBeyond(ARGUMENT, "info", 0, 14, SmokeGuard::info));
    }

    private void room() { // promise 10
        said(10, "Returns something about a room.", () -> {
            SmokeGuard x = rooms(4);
            for (int room = 0; room < 4; room++) {
                x.setSmoke(room, 1 + room);
                x.mute(room, 11 + room);
            }
            for (int room = 0; room < 4; room++) {
                due("smoke of " + room, x.room(room, 0), 1 + room);
                due("muting of " + room, x.room(room, 2), 11 + room);
            }
        });
        said(10, "`room`: a room", () -> {
            for (int k = 0; k <= 6; k++) {
                int what = k;
                takesRooms("room(.., " + k + ")", House.ALL, (x, v) -> x.room(v, what));
            }
        });
        said(10, "`what`: 0 its smoke, 1 its rest of alarm, 2 its rest of muting, 3 whether it has an alarm (0 or 1), "
                + "4 whether it is agreed on (0 or 1), 5 the set of its voting sensors as a bit mask, 6 the sum of "
                + "their weights", () -> {
            SmokeGuard x = new SmokeGuard();
            x.set(1, 4);
            x.set(2, 30);
            for (int i = 0; i < 8; i++) {
                x.addSensor(i == 3 ? 0 : 1, 0, 9999, 0, 1 + i % 3);
            }
            int[] votes = {0, 0, 0, 0, 0, 0, 0};
            about(x, 1, votes);
            x.setFault(7, 2);
            x.setFault(3, 2);
            about(x, 1, 0, 0, 0, 0, 0, 128, 2);
            about(x, 0, 0, 0, 0, 0, 0, 8, 1);
            x.setFault(0, 2);
            about(x, 1, 0, 0, 0, 0, 0, 129, 3);
            x.setFault(2, 2);
            about(x, 1, 0, 0, 0, 0, 1, 133, 6);
            x.setSmoke(1, 77);
            x.pass(1);
            about(x, 1, 77, 31, 0, 1, 1, 133, 6);
            x.mute(1, 60);
            about(x, 1, 77, 31, 60, 0, 1, 133, 6);
            for (int i = 0; i < 8; i++) {
                x.setFault(i, 2);
            }
            about(x, 1, 77, 31, 60, 0, 1, 247, 14);
        });
        said(10, "Returns that number.", () -> {
            SmokeGuard x = rooms(1);
            x.setSmoke(0, 99999);
            for (int i = 0; i < 8; i++) {
                x.addSensor(0, 0, 9999, 0, 3);
            }
            x.pass(1);
            about(x, 0, 99999, 4, 0, 1, 1, 255, 24);
        });
        said(10, "Throws `IndexOutOfBoundsException` if there is no such room", () -> {
            for (int k = 0; k <= 6; k++) {
                int what = k;
                refusesNoRoom("room(.., " + k + ")", (x, v) -> x.room(v, what));
            }
        });
        said(10, "Throws `IllegalArgumentException` if what is not 0 to 6",
                () -> refusedBeyond(ARGUMENT, "room(0, ..)", 0, 6, (x, v) -> x.room(0, v)));
    }

    private void about(SmokeGuard x, int room, int... want) {
        for (int what = 0; what < want.length; what++) {
            due("room(" + room + ", " + what + ")", x.room(room, what), want[what]);
        }
    }
}
