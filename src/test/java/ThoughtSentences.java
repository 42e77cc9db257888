/** The sentences of promises 20 to 27: passing minutes, what is told of them, and forecasts. */
final class ThoughtSentences extends Sentences {
    private static final String ROOM = "`room`: a room";
    private static final String MINUTES = "`n`: the number of minutes, 1 to 200";
    private static final String LIMIT = "`limit`: the greatest number of minutes, 1 to 200";
    private static final String NO_ROOM = "Throws `IndexOutOfBoundsException` if there is no such room";
    private static final String WRONG_MINUTES = "Throws `IllegalArgumentException` if n is out of range";
    private static final String WRONG_LIMIT = "Throws `IllegalArgumentException` if limit is out of range";

    ThoughtSentences(Check check, Document document) {
        super(check, document);
    }

    @Override
    void all() {
        pass();
        alarmsThatBegan();
        told();
        alarmIn();
        smokeAfter();
        peak();
        bestOpening();
        neededSensors();
        neededSensorsSet();
        burnsFor();
    }

    /** Each of two rooms has two sensors, 0 and 2 in room 0, that vote after a minute with smoke of 10. */
    private static SmokeGuard guarded() {
        SmokeGuard x = new SmokeGuard();
        for (int i = 0; i < 4; i++) {
            x.addSensor(i % 2, 0, 10, 0, 1);
        }
        return x;
    }

    private void pass() { // promise 20
        said(20, "Lets minutes pass.", () -> {
            SmokeGuard x = new SmokeGuard();
            x.addFuel(200);
            x.set(4, 0);
            x.setTarget(0);
            x.pass(60);
            due("t", x.info(7), 60);
            due("a fuel for each minute", x.info(8), 140);
            SmokeGuard atOnce = House.FULL.make();
            SmokeGuard oneByOne = House.FULL.make();
            int began = 0;
            for (int i = 0; i < 60; i++) {
                began += oneByOne.pass(1);
            }
            due("what began in 60 at once and one by one", atOnce.pass(60), began);
            due("all is alike then", atOnce.checksum(), oneByOne.checksum());
        });
        said(20, "Undoable.", () -> {
            undoable("pass(1)", House.WITH_SPACE, x -> x.pass(1));
            undoable("pass(60)", House.WITH_SPACE, x -> x.pass(60));
        });
        said(20, "`n`: how many, 1 to 60", () -> taken("pass", House.ALL, SmokeGuard::pass, 1, 60));
        said(20, "Throws `IllegalArgumentException` if n is out of range",
                () -> refusedBeyond(ARGUMENT, "pass", 1, 60, SmokeGuard::pass));
    }

    private void alarmsThatBegan() {
        said(20, "Returns how often alarms began in them: a room that has an alarm at the end of a minute and had none "
                + "at the end of the one before (or at the beginning).", () -> {
            SmokeGuard none = guarded();
            due("none", none.pass(60), 0);
            SmokeGuard x = guarded();
            x.setSmoke(0, 10);
            due("one room in the first minute", x.pass(1), 1);
            due("which has one at the beginning", x.pass(60), 0);
            x.setSmoke(1, 10);
            due("the other room", x.pass(60), 1);
            SmokeGuard both = guarded();
            both.setSmoke(0, 10);
            both.setSmoke(1, 10);
            due("both at once", both.pass(1), 2);
            both.mute(0, 1);
            due("none at the beginning, as it is muted, one at the end", both.pass(1), 1);
            both.mute(0, 2);
            due("muted at the end, too", both.pass(1), 0);
            due("then not", both.pass(1), 1);
            both.mute(0, 60);
            both.pass(1);
            both.mute(0, 0);
            due("one at the beginning, as it is muted no more", both.pass(1), 0);
            SmokeGuard y = guarded();
            y.set(2, 0);
            for (int minute = 2; minute <= 20; minute++) {
                y.addEvent(minute, 3, 0, minute % 2 == 0 ? 2 : 1);
            }
            y.setFault(2, 2);
            due("ten times in 20 minutes", y.pass(20), 10);
            SmokeGuard z = guarded();
            z.setFault(0, 2);
            z.addEvent(60, 3, 2, 2);
            due("in the last of 60", z.pass(60), 1);
        });
    }

    private void told() { // promise 21
        said(21, "Returns a count since the beginning.", () -> {
            for (House house : House.ALL) {
                SmokeGuard x = house.make();
                x.pass(60);
                x.begin(2);
                for (int what = 0; what <= 5; what++) {
                    due("told(" + what + ") behind begin", x.told(what), 0);
                }
            }
        });
        said(21, "`what`: 0 alarms that began (as for pass()), 1 minutes in which the damper moved, 2 events that "
                + "came, 3 smoke that went up the flue (both parts of step 3), 4 smoke that went outside through doors, "
                + "5 minutes in which some room was agreed on", () -> {
            SmokeGuard x = guarded();
            x.addFuel(24);
            x.set(5, 16);
            x.setSmoke(0, 100);
            x.pass(1); // 40 and then 10 go up the flue, room 0's alarm begins
            allTold(x, 1, 0, 0, 50, 0, 1);
            x.setTarget(7);
            x.set(5, 0);
            x.set(0, 60);
            x.setDoor(0, 1, true);
            x.setDoor(1, 2, true);
            x.pass(1); // 32 of 130 go to room 1, nothing outside; its alarm begins; the damper moves
            allTold(x, 2, 1, 0, 50, 0, 2);
            x.addEvent(3, 4, 0, 0);
            x.addEvent(3, 2, 60, 0);
            x.setTarget(5);
            x.pass(1); // 8 of the 32 go outside; the damper is jammed
            allTold(x, 2, 1, 2, 50, 8, 3);
            SmokeGuard muted = alarmAt(2);
            muted.mute(0, 60);
            muted.pass(2);
            allTold(muted, 0, 0, 1, 0, 0, 1);
            SmokeGuard held = alarmAt(1);
            held.addEvent(2, 3, 2, 1);
            held.pass(4);
            allTold(held, 1, 0, 2, 0, 0, 1);
        });
        said(21, "Returns the count.", () -> {
            SmokeGuard x = rooms(4);
            for (int i = 0; i < 8; i++) {
                x.addSensor(i % 4, 0, 1, 0, 1);
            }
            for (int room = 0; room < 4; room++) {
                x.setDoor(room, 4, true);
                x.setSmoke(room, 99999);
            }
            x.pass(2);
            allTold(x, 4, 0, 0, 0, 4 * (24999 + 18750), 2);
        });
        said(21, "Throws `IllegalArgumentException` if what is not 0 to 5",
                () -> refusedBeyond(ARGUMENT, "told", 0, 5, SmokeGuard::told));
    }

    private void allTold(SmokeGuard x, int... want) {
        for (int what = 0; what < want.length; what++) {
            due("told(" + what + ")", x.told(what), want[what]);
        }
    }

    /** Room 0 is agreed on from this minute on, by an event. */
    private static SmokeGuard alarmAt(int minute) {
        SmokeGuard x = guarded();
        x.setFault(0, 2);
        x.addEvent(minute, 3, 2, 2);
        return x;
    }

    private void alarmIn() { // promise 22
        said(22, "Returns the number of minutes after which a room has an alarm for the first time.", () -> {
            SmokeGuard x = alarmAt(3);
            x.addEvent(4, 3, 2, 0);
            x.addEvent(20, 3, 2, 2);
            due("the first of two", x.alarmIn(0, 200), 3);
            x.mute(0, 3);
            due("muted until then", x.alarmIn(0, 200), 3);
            x.mute(0, 6);
            due("muted until the last minute of its hold", x.alarmIn(0, 200), 6);
            x.mute(0, 7);
            due("muted beyond its hold", x.alarmIn(0, 200), 20);
            x.mute(0, 0);
            x.pass(2);
            due("when 2 have passed", x.alarmIn(0, 200), 1);
        });
        said(22, ROOM, () -> takesRooms("alarmIn", House.ALL, (x, v) -> x.alarmIn(v, 9)));
        said(22, LIMIT, () -> {
            taken("alarmIn(0, ..)", House.ALL, (x, v) -> x.alarmIn(0, v), 1, 200);
            due("in the first minute", alarmAt(1).alarmIn(0, 1), 1);
            due("in the last minute", alarmAt(200).alarmIn(0, 200), 200);
        });
        said(22, "Returns the number of minutes, 0 if it has one now; NONE if it has none up to limit.", () -> {
            SmokeGuard x = alarmAt(1);
            x.pass(1);
            due("one now", x.alarmIn(0, 1), 0);
            due("the other room", x.alarmIn(1, 200), -1);
            x.set(2, 0);
            x.setFault(0, 1);
            x.setFault(2, 1);
            due("one now, though it ends", x.alarmIn(0, 200), 0);
            x.mute(0, 4);
            due("muted as long as it rests", x.alarmIn(0, 200), -1);
            x.mute(0, 3);
            due("muted for a minute less", x.alarmIn(0, 200), 3);
            due("up to a minute less", x.alarmIn(0, 2), -1);
            due("a minute behind the limit", alarmAt(2).alarmIn(0, 1), -1);
            due("a minute behind 200", alarmAt(201).alarmIn(0, 200), -1);
            due("a minute before 200", alarmAt(200).alarmIn(0, 199), -1);
        });
        said(22, NO_ROOM, () -> refusesNoRoom("alarmIn", (x, v) -> x.alarmIn(v, 9)));
        said(22, WRONG_LIMIT, () -> {
            refusedBeyond(ARGUMENT, "alarmIn(0, ..)", 1, 200, (x, v) -> x.alarmIn(0, v));
            SmokeGuard x = alarmAt(1);
            x.pass(1);
            throwing(ARGUMENT, "alarmIn(0, 0) of an alarm now", () -> x.alarmIn(0, 0));
            throwing(ARGUMENT, "alarmIn(0, 201) of an alarm now", () -> x.alarmIn(0, 201));
        });
    }

    /** Closed doors, no draft, and fuel that comes in that minute and makes 40 of smoke. */
    private static SmokeGuard smokeAt(int minute) {
        SmokeGuard x = new SmokeGuard();
        x.set(0, 60);
        x.setSmoke(0, 5);
        x.addEvent(minute, 1, 1, 0);
        return x;
    }

    private void smokeAfter() { // promise 23
        said(23, "Returns the smoke of a room after some minutes.", () -> {
            SmokeGuard x = smokeAt(3);
            int[] want = {5, 5, 45, 45};
            for (int n = 1; n <= 4; n++) {
                due("room 0 after " + n, x.smokeAfter(0, n), want[n - 1]);
                due("room 1 after " + n, x.smokeAfter(1, n), 0);
            }
            due("nothing has passed", x.room(0, 0), 5);
        });
        said(23, ROOM, () -> takesRooms("smokeAfter", House.ALL, (x, v) -> x.smokeAfter(v, 9)));
        said(23, MINUTES, () -> {
            taken("smokeAfter(0, ..)", House.ALL, (x, v) -> x.smokeAfter(0, v), 1, 200);
            due("the first minute", smokeAt(1).smokeAfter(0, 1), 45);
            due("not the second", smokeAt(2).smokeAfter(0, 1), 5);
            due("the last minute", smokeAt(200).smokeAfter(0, 200), 45);
            due("not the one behind it", smokeAt(201).smokeAfter(0, 200), 5);
        });
        said(23, "Returns the smoke.", () -> {
            SmokeGuard x = smokeAt(1);
            x.setSmoke(0, 99959);
            due("the most", x.smokeAfter(0, 200), 99999);
            due("of an empty room", x.smokeAfter(1, 200), 0);
            SmokeGuard y = new SmokeGuard();
            y.set(5, 999);
            y.setSmoke(0, 437);
            due("all of it, half of the draft 875, goes up", y.smokeAfter(0, 1), 0);
            y.setSmoke(0, 438);
            due("all but 1", y.smokeAfter(0, 1), 1);
        });
        said(23, NO_ROOM, () -> refusesNoRoom("smokeAfter", (x, v) -> x.smokeAfter(v, 9)));
        said(23, WRONG_MINUTES, () -> refusedBeyond(ARGUMENT, "smokeAfter", 1, 200, (x, v) -> x.smokeAfter(0, v)));
    }

    private void peak() { // promise 24
        said(24, "Returns the greatest smoke that a room has at the end of one of some minutes, if there were no "
                + "rules, and the opening and the target of the damper were a given one from now on.", () -> {
            SmokeGuard x = new SmokeGuard();
            x.setSmoke(0, 1000);
            x.setDoor(0, 2, true);
            due("the end of the first, not now", x.peak(0, 0, 9), 750);
            SmokeGuard y = new SmokeGuard();
            y.addFuel(200);
            y.set(5, 144); // then 180: 360 of smoke, of which twice the draft goes up, and then half of it
            y.setSmoke(1, 3);
            int[] peaks = {360, 305, 248, 193, 135, 80, 23, 0, 0};
            for (int opening = 0; opening <= 8; opening++) {
                due("peak(0, " + opening + ", 1)", y.peak(0, opening, 1), peaks[opening]);
            }
            int free = y.peak(0, 8, 30);
            y.addRule(3, 0, 9999, 0);
            due("a rule does not matter", y.peak(0, 8, 30), free);
            y.setTarget(0);
            y.set(4, 1);
            due("nor the target and the opening before", y.peak(0, 8, 30), free);
            y.set(3, 1);
            due("nor that it is jammed", y.peak(0, 8, 30), free);
            y.addEvent(1, 4, 0, 0);
            due("nor that it is freed", y.peak(0, 8, 30), free);
            due("the other room's", y.peak(1, 8, 30), 3);
            due("the opening is as before", y.info(4), 1);
            due("the target, too", y.info(10), 0);
            due("and the rule", y.applying(), 0);
            SmokeGuard z = smokeAt(3);
            z.addEvent(4, 0, 0, 2);
            due("in the middle", z.peak(0, 8, 9), 45);
        });
        said(24, ROOM, () -> takesRooms("peak", House.ALL, (x, v) -> x.peak(v, 4, 9)));
        said(24, "`opening`: 0 to 8", () -> taken("peak(0, .., 9)", House.ALL, (x, v) -> x.peak(0, v, 9), 0, 8));
        said(24, MINUTES, () -> {
            taken("peak(0, 4, ..)", House.ALL, (x, v) -> x.peak(0, 4, v), 1, 200);
            due("the first minute", smokeAt(1).peak(0, 0, 1), 45);
            due("not the second", smokeAt(2).peak(0, 0, 1), 5);
            due("the last minute", smokeAt(200).peak(0, 0, 200), 45);
            due("not the one behind it", smokeAt(201).peak(0, 0, 200), 5);
        });
        said(24, "Returns the smoke.", () -> {
            SmokeGuard x = smokeAt(1);
            due("of an empty room", x.peak(1, 0, 200), 0);
            x.setSmoke(0, 99959);
            due("the most", x.peak(0, 0, 200), 99999);
        });
        said(24, NO_ROOM, () -> refusesNoRoom("peak", (x, v) -> x.peak(v, 4, 9)));
        said(24, "Throws `IllegalArgumentException` if opening or n is out of range", () -> {
            refusedBeyond(ARGUMENT, "peak(0, .., 9)", 0, 8, (x, v) -> x.peak(0, v, 9));
            refusedBeyond(ARGUMENT, "peak(0, 4, ..)", 1, 200, (x, v) -> x.peak(0, 4, v));
        });
    }

    private void bestOpening() { // promise 25
        said(25, "Returns the smallest opening with which the peak of room 0 would be least.", () -> {
            for (House house : House.ALL) {
                for (int n : new int[] {1, 5, 40}) {
                    SmokeGuard x = house.make();
                    int best = 8;
                    for (int opening = 7; opening >= 0; opening--) {
                        best = x.peak(0, opening, n) <= x.peak(0, best, n) ? opening : best;
                    }
                    due("bestOpening(" + n + ") of " + house, x.bestOpening(n), best);
                }
            }
            int[][] all40 = {{999, 1}, {139, 1}, {138, 2}, {66, 2}, {65, 3}, {42, 3}, {41, 4}, {29, 4}, {28, 5},
                {22, 5}, {21, 6}, {18, 6}, {17, 7}, {14, 7}, {13, 8}, {11, 8}};
            for (int[] w : all40) {
                SmokeGuard x = new SmokeGuard();
                x.addFuel(1);
                x.set(5, w[0]);
                due("the first that draws all of 40, warmth " + w[0], x.bestOpening(1), w[1]);
            }
            SmokeGuard x = new SmokeGuard();
            x.addFuel(200);
            x.set(5, 144);
            due("7 and 8 draw all of 360", x.bestOpening(1), 7);
            x.addRule(3, 0, 9999, 0);
            due("without the rules", x.bestOpening(1), 7);
        });
        said(25, MINUTES, () -> {
            taken("bestOpening", House.ALL, SmokeGuard::bestOpening, 1, 200);
            due("the first minute", drawnAt(1).bestOpening(1), 8);
            due("not the second", drawnAt(2).bestOpening(1), 0);
            due("the last minute", drawnAt(200).bestOpening(200), 8);
            due("not the one behind it", drawnAt(201).bestOpening(200), 0);
        });
        said(25, "Returns the opening.", () -> {
            due("nothing burns: the least", new SmokeGuard().bestOpening(200), 0);
            SmokeGuard x = new SmokeGuard();
            x.addFuel(200);
            due("all draw too little: the greatest", x.bestOpening(1), 8);
            due("it is not moved", x.info(4), 8);
        });
        said(25, WRONG_MINUTES, () -> refusedBeyond(ARGUMENT, "bestOpening", 1, 200, SmokeGuard::bestOpening));
    }

    /** A fire of that minute alone makes more smoke than any opening draws. */
    private static SmokeGuard drawnAt(int minute) {
        SmokeGuard x = new SmokeGuard();
        x.addEvent(minute, 1, 200, 0);
        return x;
    }

    private void neededSensors() { // promise 26
        said(26, ROOM, () -> takesRooms("neededSensors", House.ALL, (x, v) -> x.neededSensors(v, 9)));
        said(26, MINUTES, () -> {
            taken("neededSensors(0, ..)", House.ALL, (x, v) -> x.neededSensors(0, v), 1, 200);
            due("the first minute", alarmAt(1).neededSensors(0, 1), 1);
            due("not the second", alarmAt(2).neededSensors(0, 1), 0);
            due("the last minute", alarmAt(200).neededSensors(0, 200), 1);
            due("not the one behind it", alarmAt(201).neededSensors(0, 200), 0);
        });
        said(26, "Returns the set, as a bit mask; 0 if the room has no alarm at the end of any of them as things are.",
                () -> {
            due("no sensors", new SmokeGuard().neededSensors(0, 200), 0);
            SmokeGuard x = new SmokeGuard();
            for (int i = 0; i < 8; i++) {
                x.addSensor(0, 0, 10, 0, 1);
            }
            due("no smoke, so no alarm", x.neededSensors(0, 200), 0);
            x.setSmoke(0, 10);
            x.set(1, 9);
            due("8 do not reach the quorum 9", x.neededSensors(0, 200), 0);
            x.set(1, 8);
            due("all of 8", x.neededSensors(0, 200), 255);
            x.set(1, 7);
            due("any 7 of 8", x.neededSensors(0, 200), 0);
            x.setFault(3, 1);
            due("all but the dead one", x.neededSensors(0, 200), 255 - 8);
            due("the other room", x.neededSensors(1, 200), 0);
            x.mute(0, 60);
            due("muted in all of the minutes", x.neededSensors(0, 59), 0);
            due("not in the last one", x.neededSensors(0, 60), 255 - 8);
        });
        said(26, NO_ROOM, () -> refusesNoRoom("neededSensors", (x, v) -> x.neededSensors(v, 9)));
        said(26, WRONG_MINUTES,
                () -> refusedBeyond(ARGUMENT, "neededSensors(0, ..)", 1, 200, (x, v) -> x.neededSensors(0, v)));
    }

    private void neededSensorsSet() {
        said(26, "Returns the set of the sensors such that, if just this one were dead now (until an event changes its "
                + "fault, if one does), a room would have no alarm at the end of any of some minutes, though it has "
                + "one at the end of some of them as things are.", () -> {
            SmokeGuard x = new SmokeGuard();
            x.addSensor(0, 0, 10, 0, 1);
            x.addSensor(0, 0, 10, 0, 1);
            x.setSmoke(0, 10);
            due("both of two", x.neededSensors(0, 5), 3);
            x.addSensor(0, 0, 10, 0, 1);
            due("any two of three", x.neededSensors(0, 5), 0);
            x.addSensor(1, 0, 10, 0, 1);
            x.setFault(2, 1);
            due("one of three is dead already", x.neededSensors(0, 5), 3);
            x.addEvent(3, 3, 1, 0);
            due("until an event makes it alive", x.neededSensors(0, 5), 1);
            due("if it comes in time", x.neededSensors(0, 2), 3);
            x.addEvent(4, 3, 1, 1);
            due("for a minute", x.neededSensors(0, 5), 1);
            SmokeGuard held = new SmokeGuard();
            held.addSensor(0, 0, 10, 0, 1);
            held.addSensor(0, 0, 10, 0, 1);
            held.setSmoke(0, 10);
            held.pass(1);
            due("an alarm that rests needs none", held.neededSensors(0, 5), 0);
            held.mute(0, 3);
            due("muted until its last minute", held.neededSensors(0, 3), 0);
            held.mute(0, 4);
            due("muted beyond it", held.neededSensors(0, 4), 3);
            due("it is in thought alone", held.sensor(0, 5) + held.sensor(1, 5), 0);
            SmokeGuard ending = new SmokeGuard();
            ending.set(2, 0);
            ending.addSensor(0, 0, 10, 0, 1);
            ending.addSensor(0, 0, 10, 0, 1);
            ending.setSmoke(0, 10);
            ending.pass(1);
            ending.setSmoke(0, 0);
            due("an alarm now", ending.room(0, 3), 1);
            due("but at the end of none", ending.neededSensors(0, 200), 0);
        });
    }

    private void burnsFor() { // promise 27
        said(27, "Returns the number of minutes until the fire has no fuel.", () -> {
            SmokeGuard x = new SmokeGuard();
            x.addFuel(10);
            due("5 and 5", x.burnsFor(200), 2);
            x.setTarget(0);
            due("5, 4, 4", x.burnsFor(200), 3);
            x.addRule(3, 0, 9, 8);
            due("a rule keeps it open", x.burnsFor(200), 2);
            x.addEvent(2, 1, 1, 0);
            due("an event in the last minute", x.burnsFor(200), 3);
            x.undo();
            x.addEvent(3, 1, 1, 0);
            due("an event a minute too late", x.burnsFor(200), 2);
            due("nothing has burnt", x.info(8), 10);
        });
        said(27, LIMIT, () -> {
            taken("burnsFor", House.ALL, SmokeGuard::burnsFor, 1, 200);
            due("one minute", slow(1).burnsFor(1), 1);
            due("200 minutes", slow(200).burnsFor(200), 200);
        });
        said(27, "Returns the number of minutes, 0 if it has none now; NONE if it has fuel up to limit.", () -> {
            due("none now", new SmokeGuard().burnsFor(1), 0);
            SmokeGuard x = new SmokeGuard();
            x.addEvent(1, 1, 200, 0);
            due("none now, though some comes", x.burnsFor(200), 0);
            due("fuel up to 1", slow(2).burnsFor(1), -1);
            due("fuel up to 199", slow(200).burnsFor(199), -1);
            SmokeGuard y = slow(200);
            y.addEvent(200, 1, 1, 0);
            due("fuel up to 200", y.burnsFor(200), -1);
        });
        said(27, WRONG_LIMIT, () -> refusedBeyond(ARGUMENT, "burnsFor", 1, 200, SmokeGuard::burnsFor));
    }

    /** A closed damper, with which one of fuel burns in a minute. */
    private static SmokeGuard slow(int fuel) {
        SmokeGuard x = new SmokeGuard();
        x.set(4, 0);
        x.setTarget(0);
        x.addFuel(fuel);
        return x;
    }
}
