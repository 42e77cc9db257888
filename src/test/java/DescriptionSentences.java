/** The description's sentences up to EVENTS: the house, the fire, sensors, alarms, rules and events. */
final class DescriptionSentences extends Sentences {
    DescriptionSentences(Check check, Document document) {
        super(check, document);
    }

    @Override
    void all() {
        atLarge();
        house();
        fire();
        sensors();
        excitement();
        counting();
        alarms();
        rules();
        applying();
        events();
        kindsOfEvents();
        orderOfEvents();
    }

    private void atLarge() {
        said("A fireplace with a damper and a smoke guard: a fire that burns with the air that it gets, a flue whose "
                + "draft draws smoke or not, rooms with doors through which smoke spreads, sensors with delays and "
                + "faults that vote, alarms that never rest on one sensor alone and are held, rules that move the "
                + "damper step by step, events that come at their minutes, forecasts in thought, and undo.", () -> {
            SmokeGuard x = new SmokeGuard();
            x.addSensor(0, 0, 1, 0, 3);
            x.setFault(0, 2);
            due("one sensor of weight 3 alone", x.alarmIn(0, 200), -1);
            x.addSensor(0, 0, 9999, 0, 1);
            x.setFault(1, 2);
            due("a second one of weight 1", x.alarmIn(0, 200), 1);
        });
        said("An object is used for at most 512 calls after it has been made; what later calls answer is free.", () -> {
            SmokeGuard x = new SmokeGuard();
            for (int i = 1; i <= 508; i++) {
                x.pass(60);
            }
            due("call 509: t", x.info(7), 508 * 60);
            due("call 510: an event in minute t + 999", x.addEvent(508 * 60 + 999, 1, 200, 0), 1);
            due("call 511: its minute", x.event(0, 0), 31479);
            due("call 512: undo()", x.undo(), 3);
        });
        said("Quotients are rounded toward 0 throughout.", () -> {
            SmokeGuard x = new SmokeGuard();
            x.addFuel(49);
            due("1 + 49 / 25", x.info(9), 2);
            x.set(WARMTH, 9);
            x.set(OPENING, 7);
            due("9 * 7 / 8", x.info(11), 7);
            x.pass(1);
            due("49 - (1 + 7 / 2)", x.info(8), 45);
            due("9 + 12 - 9 / 8", x.info(5), 20);
            SmokeGuard y = new SmokeGuard();
            y.set(WARMTH, 3);
            y.setSmoke(0, 10);
            y.pass(1);
            due("10 - 3 / 2", y.room(0, 0), 9);
            int[][] doors = {{7, 0, 6, 1}, {0, 7, 1, 6}, {3, 0, 3, 0}, {0, 3, 0, 3}, {0, 4, 1, 3}, {4, 0, 3, 1}};
            for (int[] d : doors) {
                due("(" + d[0] + " - " + d[1] + ") / 4, room 0", throughDoor(d[0], d[1]).room(0, 0), d[2]);
                due("(" + d[0] + " - " + d[1] + ") / 4, room 1", throughDoor(d[0], d[1]).room(1, 0), d[3]);
            }
        });
    }

    private static SmokeGuard throughDoor(int smoke0, int smoke1) {
        SmokeGuard x = new SmokeGuard();
        x.setSmoke(0, smoke0);
        x.setSmoke(1, smoke1);
        x.setDoor(0, 1, true);
        x.pass(1);
        return x;
    }

    // ---- ROOMS, DOORS, FIRE

    private void house() {
        said("There are R rooms, 1 to 4 (initially 2), numbered from 0; the fireplace is in room 0.", () -> {
            due("R of a new one", new SmokeGuard().info(6), 2);
            for (int rooms = 1; rooms <= 4; rooms++) {
                SmokeGuard x = rooms(rooms);
                due("R", x.info(6), rooms);
                x.addFuel(25);
                x.set(WIND, 60);
                x.pass(1);
                for (int room = 0; room < rooms; room++) {
                    due("the fire's smoke in room " + room, x.room(room, 0), room == 0 ? 80 : 0);
                }
                int beyond = rooms;
                throwing(INDEX, "room R", () -> x.room(beyond, 0));
                throwing(INDEX, "room -1", () -> x.room(-1, 0));
            }
            throwing(ARGUMENT, "no rooms", () -> rooms(1).begin(0));
            throwing(ARGUMENT, "five rooms", () -> rooms(4).begin(5));
        });
        said("A room has smoke, 0 to 99999 (initially 0).", () -> {
            for (int room = 0; room < 4; room++) {
                SmokeGuard x = rooms(4);
                int r = room;
                due("at first", x.room(room, 0), 0);
                throwing(ARGUMENT, "smoke -1", () -> x.setSmoke(r, -1));
                throwing(ARGUMENT, "smoke 100000", () -> x.setSmoke(r, 100000));
                x.setSmoke(room, 99999);
                for (int other = 0; other < 4; other++) {
                    due("the most in room " + room + " alone", x.room(other, 0), other == room ? 99999 : 0);
                }
                x.setSmoke(room, 0);
                due("the least", x.room(room, 0), 0);
            }
        });
        said("There is a door between any two rooms, and one from each room to the outside, which is numbered R; "
                + "doors are open or closed (initially all are closed).", () -> {
            for (int rooms = 1; rooms <= 4; rooms++) {
                for (int a = 0; a < rooms; a++) {
                    for (int b = a + 1; b <= rooms; b++) {
                        SmokeGuard x = rooms(rooms);
                        x.setDoor(b, a, true);
                        onlyOpen(x, rooms, a, b);
                        x.setDoor(a, b, false);
                        onlyOpen(x, rooms, -1, -1);
                    }
                }
            }
            SmokeGuard x = new SmokeGuard();
            onlyOpen(x, 2, -1, -1);
            throwing(INDEX, "3 is not the outside of two rooms", () -> number(x.setDoor(0, 3, true)));
        });
    }

    private void onlyOpen(SmokeGuard x, int rooms, int a, int b) {
        for (int one = 0; one <= rooms; one++) {
            for (int other = 0; other <= rooms; other++) {
                due("of " + rooms + " rooms, door " + one + "-" + other + " with " + a + "-" + b + " open",
                        x.isOpen(one, other), one == a && other == b || one == b && other == a);
            }
        }
    }

    private void fire() {
        said("The fire has fuel, 0 to 200 (initially 0).", () -> {
            SmokeGuard x = new SmokeGuard();
            due("at first", x.info(8), 0);
            due("199", x.addFuel(199), 199);
            due("200", x.addFuel(1), 200);
            due("not 201", x.addFuel(1), 200);
            due("the most", x.info(8), 200);
            x.pass(60);
            due("the least", x.info(8), 0);
        });
        said("Its strength is 0 without fuel, otherwise 1 + fuel / 25.", () -> {
            due("without fuel", new SmokeGuard().info(9), 0);
            for (int fuel = 1; fuel <= 200; fuel++) {
                SmokeGuard x = new SmokeGuard();
                x.addFuel(fuel);
                due("strength with fuel " + fuel, x.info(9), 1 + (fuel - fuel % 25) / 25);
            }
        });
        said("The damper has an opening, 0 to 8 (initially 8), and a target (initially 8); it is jammed or not "
                + "(initially not).", () -> {
            SmokeGuard x = new SmokeGuard();
            due("opening at first", x.info(OPENING), 8);
            due("target at first", x.info(10), 8);
            due("jammed at first", x.info(JAMMED), 0);
            for (int opening = 0; opening <= 8; opening++) {
                x.set(OPENING, opening);
                x.setTarget(8 - opening);
                due("opening", x.info(OPENING), opening);
                due("target", x.info(10), 8 - opening);
            }
            throwing(ARGUMENT, "opening 9", () -> x.set(OPENING, 9));
            throwing(ARGUMENT, "opening -1", () -> x.set(OPENING, -1));
            x.set(JAMMED, 1);
            due("jammed", x.info(JAMMED), 1);
        });
        said("The flue has a warmth, 0 to 999 (initially 0).", () -> settingFromZeroTo(WARMTH, 999));
        said("The wind is 0 to 60 (initially 0).", () -> settingFromZeroTo(WIND, 60));
        said("The draft is warmth * opening / 8 - wind, or 0 if this is negative.", () -> {
            int[][] drafts = {
                {0, 8, 0, 0}, {1, 8, 0, 1}, {7, 1, 0, 0}, {8, 1, 0, 1}, {15, 1, 0, 1}, {15, 1, 1, 0}, {999, 0, 0, 0},
                {999, 0, 60, 0}, {999, 7, 0, 874}, {999, 8, 0, 999}, {999, 8, 60, 939}, {59, 8, 60, 0},
                {60, 8, 60, 0}, {61, 8, 60, 1}, {0, 0, 60, 0}};
            for (int[] d : drafts) {
                SmokeGuard x = new SmokeGuard();
                x.set(WARMTH, d[0]);
                x.set(OPENING, d[1]);
                x.set(WIND, d[2]);
                due("draft of " + d[0] + " * " + d[1] + " / 8 - " + d[2], x.info(11), d[3]);
            }
        });
    }

    private void settingFromZeroTo(int what, int most) {
        SmokeGuard x = new SmokeGuard();
        due("at first", x.info(what), 0);
        throwing(ARGUMENT, "below the least", () -> x.set(what, -1));
        throwing(ARGUMENT, "above the most", () -> x.set(what, most + 1));
        x.set(what, most);
        due("the most", x.info(what), most);
        x.set(what, 0);
        due("the least", x.info(what), 0);
    }

    // ---- SENSORS

    private void sensors() {
        said("There are at most 8 sensors, numbered from 0.", () -> {
            SmokeGuard x = new SmokeGuard();
            throwing(INDEX, "sensor 0 of none", () -> x.sensor(0, 0));
            for (int i = 0; i < 8; i++) {
                due("the next sensor's number", x.addSensor(i % 2, 0, 100 + i, 0, 1), i);
                due("how many there are", x.info(12), i + 1);
            }
            throwing(STATE, "a ninth", () -> x.addSensor(0, 0, 1, 0, 1));
            for (int i = 0; i < 8; i++) {
                due("the threshold of sensor " + i, x.sensor(i, 2), 100 + i);
            }
            throwing(INDEX, "sensor 8 of 8", () -> x.sensor(8, 0));
            throwing(INDEX, "sensor -1", () -> x.sensor(-1, 0));
        });
        said("A sensor has a room, a kind (0 smoke, 1 draft, 2 warmth), a threshold from 1 to 9999, a delay from 0 to "
                + "9 minutes, a weight from 1 to 3, and a fault (0 none, as initially, 1 dead, 2 stuck).", () -> {
            int[] least = {0, 0, 1, 0, 1};
            int[] most = {3, 2, 9999, 9, 3};
            for (int varied = 0; varied < 5; varied++) {
                for (int value : new int[] {least[varied], most[varied]}) {
                    SmokeGuard x = rooms(4);
                    int[] s = {1, 1, 500, 4, 2};
                    s[varied] = value;
                    x.addSensor(s[0], s[1], s[2], s[3], s[4]);
                    for (int what = 0; what < 5; what++) {
                        due("what " + what + " with " + value + " at " + varied, x.sensor(0, what), s[what]);
                    }
                    due("the fault at first", x.sensor(0, 5), 0);
                }
            }
            SmokeGuard x = rooms(4);
            x.addSensor(0, 0, 1, 0, 1);
            for (int fault = 2; fault >= 0; fault--) {
                x.setFault(0, fault);
                due("the fault", x.sensor(0, 5), fault);
            }
        });
    }

    private void excitement() {
        said("It is excited if the smoke of its room is at least the threshold (kind 0), the draft is less than the "
                + "threshold while the strength of the fire is above 0 (kind 1), or the warmth is at least the "
                + "threshold (kind 2).", () -> {
            for (int threshold : new int[] {1, 2, 500, 9999}) {
                SmokeGuard x = new SmokeGuard();
                x.addSensor(1, 0, threshold, 0, 1);
                x.setSmoke(0, 99999);
                due("no smoke, threshold " + threshold, x.sensor(0, 7), 0);
                x.setSmoke(1, threshold - 1);
                due("smoke below " + threshold, x.sensor(0, 7), 0);
                x.setSmoke(1, threshold);
                due("smoke of " + threshold, x.sensor(0, 7), 1);
                x.setSmoke(1, 99999);
                due("smoke above " + threshold, x.sensor(0, 7), 1);
            }
            for (int threshold : new int[] {1, 2, 500, 999}) {
                SmokeGuard x = new SmokeGuard();
                x.addSensor(1, 1, threshold, 0, 1);
                x.addSensor(1, 2, threshold, 0, 1);
                x.set(WARMTH, threshold - 1);
                due("draft below " + threshold + " without a fire", x.sensor(0, 7), 0);
                due("warmth below " + threshold, x.sensor(1, 7), 0);
                x.addFuel(1);
                due("draft below " + threshold + " with the least fire", x.sensor(0, 7), 1);
                x.set(WARMTH, threshold);
                due("draft of " + threshold, x.sensor(0, 7), 0);
                due("warmth of " + threshold, x.sensor(1, 7), 1);
                x.set(OPENING, 0);
                due("no draft, warmth of " + threshold, x.sensor(0, 7), 1);
                due("warmth, whatever the draft", x.sensor(1, 7), 1);
            }
            SmokeGuard x = new SmokeGuard();
            x.addSensor(0, 1, 9999, 0, 1);
            x.addSensor(0, 2, 9999, 0, 1);
            x.addFuel(200);
            x.set(WARMTH, 999);
            due("the greatest draft is below 9999", x.sensor(0, 7), 1);
            due("the greatest warmth is below 9999", x.sensor(1, 7), 0);
        });
    }

    private void counting() {
        said("It has a count of the minutes for which it has been excited, up to 99 (initially 0).", () -> {
            SmokeGuard x = new SmokeGuard();
            x.setSmoke(1, 5);
            x.addSensor(1, 0, 5, 0, 1);
            due("at first, though it is excited", x.sensor(0, 6), 0);
            x.pass(1);
            due("after a minute", x.sensor(0, 6), 1);
            x.pass(60);
            x.pass(37);
            due("after 98", x.sensor(0, 6), 98);
            x.pass(1);
            due("after 99", x.sensor(0, 6), 99);
            x.pass(1);
            due("after 100", x.sensor(0, 6), 99);
            x.pass(60);
            due("after 160", x.sensor(0, 6), 99);
        });
        said("It votes if its fault is 2, or if its fault is 0 and its count is greater than its delay.", () -> {
            for (int delay = 0; delay <= 9; delay++) {
                SmokeGuard x = new SmokeGuard();
                x.addSensor(1, 0, 5, delay, 1);
                x.setSmoke(1, 5);
                for (int count = 0; count <= 11; count++) {
                    due("the count", x.sensor(0, 6), count);
                    due("no fault, count " + count + ", delay " + delay, x.sensor(0, 8), count > delay ? 1 : 0);
                    x.setFault(0, 1);
                    due("dead, count " + count + ", delay " + delay, x.sensor(0, 8), 0);
                    x.setFault(0, 2);
                    due("stuck, count " + count + ", delay " + delay, x.sensor(0, 8), 1);
                    x.setFault(0, 0);
                    x.pass(1);
                }
            }
        });
    }

    // ---- ALARMS

    private void alarms() {
        said("There is a quorum, 2 to 9 (initially 2), and a hold, 0 to 30 minutes (initially 3).", () -> {
            SmokeGuard x = new SmokeGuard();
            due("quorum at first", x.info(QUORUM), 2);
            due("hold at first", x.info(HOLD), 3);
            throwing(ARGUMENT, "quorum 1", () -> x.set(QUORUM, 1));
            throwing(ARGUMENT, "quorum 10", () -> x.set(QUORUM, 10));
            throwing(ARGUMENT, "hold -1", () -> x.set(HOLD, -1));
            throwing(ARGUMENT, "hold 31", () -> x.set(HOLD, 31));
            x.set(QUORUM, 9);
            x.set(HOLD, 30);
            due("the greatest quorum", x.info(QUORUM), 9);
            due("the greatest hold", x.info(HOLD), 30);
            x.set(QUORUM, 2);
            x.set(HOLD, 0);
            due("the least quorum", x.info(QUORUM), 2);
            due("the least hold", x.info(HOLD), 0);
        });
        said("A room is agreed on if at least two of its sensors vote, and the sum of the weights of its voting "
                + "sensors is at least the quorum.", () -> {
            due("no sensor", new SmokeGuard().room(0, 4), 0);
            agreedOn(2, false, 3);
            agreedOn(2, true, 1, 1);
            agreedOn(3, false, 1, 1);
            agreedOn(3, true, 2, 1);
            agreedOn(6, true, 3, 3);
            agreedOn(7, false, 3, 3);
            agreedOn(9, false, 3, 3, 2);
            agreedOn(9, true, 3, 3, 3);
            agreedOn(9, false, 1, 1, 1, 1, 1, 1, 1, 1);
            agreedOn(8, true, 1, 1, 1, 1, 1, 1, 1, 1);
            agreedOn(9, true, 3, 3, 3, 3, 3, 3, 3, 3);
            SmokeGuard x = new SmokeGuard();
            for (int i = 0; i < 4; i++) {
                x.addSensor(i % 2, 0, 1, 0, 3);
            }
            x.setFault(0, 2);
            x.setFault(1, 2);
            due("one vote of each room: room 0", x.room(0, 4), 0);
            due("one vote of each room: room 1", x.room(1, 4), 0);
            x.setFault(3, 2);
            due("two votes of room 1: room 0", x.room(0, 4), 0);
            due("two votes of room 1: room 1", x.room(1, 4), 1);
        });
        said("A room has a rest of alarm, in minutes (initially 0), and a rest of muting (initially 0).", () -> {
            for (int room = 0; room < 4; room++) {
                due("rest of alarm", rooms(4).room(room, 1), 0);
                due("rest of muting", rooms(4).room(room, 2), 0);
            }
        });
        said("It has an alarm if its rest of alarm is above 0 and its rest of muting is 0.", () -> {
            SmokeGuard x = new SmokeGuard();
            due("rest 0, muting 0", x.room(0, 3), 0);
            x.mute(0, 1);
            due("rest 0, muting 1", x.room(0, 3), 0);
            x.mute(0, 0);
            x.addSensor(0, 0, 1, 0, 3);
            x.addSensor(0, 0, 1, 0, 3);
            x.setFault(0, 2);
            x.setFault(1, 2);
            due("agreed on, but rest 0", x.room(0, 3), 0);
            x.set(HOLD, 0);
            x.pass(1);
            due("the rest of alarm", x.room(0, 1), 1);
            due("rest 1, muting 0", x.room(0, 3), 1);
            x.mute(0, 1);
            due("rest 1, muting 1", x.room(0, 3), 0);
            x.mute(0, 0);
            due("rest 1, muting 0 again", x.room(0, 3), 1);
            due("the other room", x.room(1, 3), 0);
        });
    }

    private void agreedOn(int quorum, boolean want, int... weights) {
        SmokeGuard x = new SmokeGuard();
        x.set(QUORUM, quorum);
        for (int i = 0; i < weights.length; i++) {
            x.addSensor(1, 0, 1, 0, weights[i]);
            due("no vote of " + weights.length, x.room(1, 4), 0);
        }
        for (int i = 0; i < weights.length; i++) {
            x.setFault(i, 2);
        }
        due(weights.length + " votes, quorum " + quorum, x.room(1, 4), want ? 1 : 0);
    }

    // ---- RULES

    private void rules() {
        said("There are at most 8 rules, numbered from 0.", () -> {
            SmokeGuard x = new SmokeGuard();
            due("how many there are at first", x.info(13), 0);
            for (int i = 0; i < 8; i++) {
                due("the next rule's number", x.addRule(3, 0, 0, 0), i);
                due("how many there are", x.info(13), i + 1);
            }
            throwing(STATE, "a ninth", () -> x.addRule(3, 0, 0, 0));
            throwing(INDEX, "rule 8 of 8", () -> x.removeRule(8));
            throwing(INDEX, "rule -1", () -> x.removeRule(-1));
            due("the last one's number is 7", x.removeRule(7), 7);
            due("then there is space for it", x.addRule(3, 0, 0, 0), 7);
        });
        said("A rule has a kind, a room, a limit from 0 to 9999, and an opening from 0 to 8.", () -> {
            taken("kind", House.WITH_SPACE, (x, v) -> x.addRule(v, 0, 50, 4), 0, 3);
            takesRooms("room", House.WITH_SPACE, (x, v) -> x.addRule(0, v, 50, 4));
            taken("limit", House.WITH_SPACE, (x, v) -> x.addRule(0, 0, v, 4), 0, 9999);
            taken("opening", House.WITH_SPACE, (x, v) -> x.addRule(0, 0, 50, v), 0, 8);
            for (int opening : new int[] {0, 8}) {
                SmokeGuard x = new SmokeGuard();
                x.setTarget(4);
                x.addRule(3, 0, 0, opening);
                x.pass(1);
                due("the opening of the rule", x.info(10), opening);
            }
        });
    }

    private void applying() {
        said("It applies: kind 0: if the smoke of the room is at least the limit; 1: if the draft is less than the "
                + "limit; 2: if the room has an alarm (whatever the limit is); 3: if the strength of the fire is at "
                + "most the limit.", () -> {
            for (int limit : new int[] {0, 1, 500, 9999}) {
                SmokeGuard x = rooms(4);
                x.addRule(0, 3, limit, 0);
                x.addRule(1, 3, limit, 0);
                x.setSmoke(0, 99999);
                x.set(WARMTH, Math.min(limit, 999));
                due("no smoke, limit " + limit, x.applying() == 0, limit == 0);
                x.setSmoke(3, limit);
                due("smoke of " + limit, x.applying(), 0);
                x.setSmoke(3, Math.max(limit - 1, 0));
                due("smoke below " + limit, x.applying() == 0, limit == 0);
                x.removeRule(0);
                due("draft of the limit " + limit + " or 999", x.applying(), limit > 999 ? 0 : -1);
                x.set(WIND, 1);
                due("draft below " + limit, x.applying(), limit == 0 ? -1 : 0);
            }
            for (int limit : new int[] {0, 9999}) {
                SmokeGuard x = new SmokeGuard();
                x.addRule(2, 1, limit, 0);
                due("no alarm, limit " + limit, x.applying(), -1);
                x.addSensor(1, 0, 1, 0, 1);
                x.addSensor(1, 0, 1, 0, 1);
                x.setFault(0, 2);
                x.setFault(1, 2);
                due("agreed on, but no alarm, limit " + limit, x.applying(), -1);
                x.pass(1);
                due("an alarm, limit " + limit, x.applying(), 0);
                x.mute(1, 1);
                due("a muted alarm, limit " + limit, x.applying(), -1);
            }
            int[][] strengths = {{0, 0, 0}, {0, 9999, 0}, {1, 0, -1}, {1, 1, 0}, {199, 7, -1}, {199, 8, 0},
                {200, 8, -1}, {200, 9, 0}, {200, 9999, 0}};
            for (int[] s : strengths) {
                SmokeGuard x = new SmokeGuard();
                x.addRule(3, 0, s[1], 0);
                if (s[0] > 0) {
                    x.addFuel(s[0]);
                }
                due("fuel " + s[0] + ", limit " + s[1], x.applying(), s[2]);
            }
        });
        said("(The room has no meaning for the kinds 1 and 3.)", () -> {
            for (int room = 0; room < 4; room++) {
                SmokeGuard x = rooms(4);
                x.addFuel(25);
                x.set(WARMTH, 50);
                x.addRule(1, room, 51, 0);
                x.addRule(3, room, 2, 0);
                due("kind 1 with room " + room, x.applying(), 0);
                x.setSmoke(room, 99999);
                due("kind 1 with smoke in room " + room, x.applying(), 0);
                x.set(WARMTH, 51);
                due("kind 3 with room " + room, x.applying(), 1);
                x.addFuel(25);
                due("neither, though there is smoke", x.applying(), -1);
            }
        });
    }

    // ---- EVENTS

    private void events() {
        said("There are at most 20 events that have not come yet.", () -> {
            SmokeGuard x = new SmokeGuard();
            for (int i = 1; i <= 20; i++) {
                due("the number of events", x.addEvent(i == 20 ? 1 : 2, 2, i, 0), i);
            }
            throwing(STATE, "a 21st", () -> x.addEvent(2, 4, 0, 0));
            due("there are 20", x.info(14), 20);
            x.pass(1);
            due("one has come", x.info(14), 19);
            due("there is space for one", x.addEvent(2, 2, 21, 0), 20);
            throwing(STATE, "and for no more", () -> x.addEvent(2, 4, 0, 0));
            x.pass(1);
            due("all have come", x.info(14), 0);
            due("told(2)", x.told(2), 21);
            due("the last of them, too", x.info(WIND), 21);
        });
    }

    private void kindsOfEvents() {
        said("An event has a minute, a kind and two numbers a and b: kind 0: the door between the rooms a and b (also "
                + "R) is opened, if it is closed, and closed, if it is open; 1: the fuel increases by a, up to 200; 2: "
                + "the wind becomes a; 3: the fault of sensor a becomes b; 4: the damper is jammed, if it is not, and "
                + "freed, if it is.", () -> {
            for (int rooms = 1; rooms <= 4; rooms++) {
                for (int b = 1; b <= rooms; b++) {
                    SmokeGuard x = rooms(rooms);
                    x.addEvent(1, 0, 0, b);
                    x.addEvent(2, 0, 0, b);
                    x.pass(1);
                    onlyOpen(x, rooms, 0, b);
                    x.pass(1);
                    onlyOpen(x, rooms, -1, -1);
                }
            }
            int[][] fuels = {{0, 1, 1}, {0, 200, 200}, {199, 1, 200}, {199, 2, 200}, {200, 1, 200}, {200, 200, 200}};
            for (int[] f : fuels) {
                SmokeGuard x = new SmokeGuard();
                x.set(OPENING, 0);
                if (f[0] > 0) {
                    x.addFuel(f[0]);
                }
                x.addEvent(1, 1, f[1], 0);
                x.pass(1);
                due("fuel " + f[0] + " + " + f[1] + ", of which 1 burns", x.info(8), f[2] - 1);
            }
            for (int wind : new int[] {0, 60}) {
                SmokeGuard x = new SmokeGuard();
                x.set(WIND, 30);
                x.addEvent(1, 2, wind, 0);
                x.pass(1);
                due("the wind", x.info(WIND), wind);
            }
            for (int fault = 0; fault <= 2; fault++) {
                SmokeGuard x = new SmokeGuard();
                for (int i = 0; i < 8; i++) {
                    x.addSensor(0, 0, 1, 0, 1);
                    x.setFault(i, 1);
                }
                x.addEvent(1, 3, 0, fault);
                x.addEvent(1, 3, 7, fault);
                x.pass(1);
                for (int i = 0; i < 8; i++) {
                    due("the fault of sensor " + i, x.sensor(i, 5), i == 0 || i == 7 ? fault : 1);
                }
            }
            SmokeGuard x = new SmokeGuard();
            x.addEvent(1, 4, 0, 0);
            x.addEvent(2, 4, 0, 0);
            x.pass(1);
            due("jammed", x.info(JAMMED), 1);
            x.pass(1);
            due("freed", x.info(JAMMED), 0);
        });
    }

    private void orderOfEvents() {
        said("An event comes in its minute, the ones of the same minute in the order in which they were added.", () -> {
            SmokeGuard x = new SmokeGuard();
            x.addEvent(3, 2, 31, 0);
            x.addEvent(1, 2, 11, 0);
            x.addEvent(3, 2, 32, 0);
            x.addEvent(2, 2, 21, 0);
            x.addEvent(1, 2, 12, 0);
            x.addEvent(3, 2, 33, 0);
            int[] due = {0, 12, 21, 33, 33};
            for (int t = 1; t <= 4; t++) {
                x.pass(1);
                due("the wind in minute " + t, x.info(WIND), due[t]);
            }
            SmokeGuard y = new SmokeGuard();
            y.addEvent(999, 2, 60, 0);
            for (int i = 0; i < 16; i++) {
                y.pass(60);
            }
            y.pass(38);
            due("t", y.info(7), 998);
            due("the wind in the minute before", y.info(WIND), 0);
            y.pass(1);
            due("the wind in minute 999", y.info(WIND), 60);
        });
    }
}
