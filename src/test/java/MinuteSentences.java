/** The description's sentences of A MINUTE: its seven steps. */
final class MinuteSentences extends Sentences {
    MinuteSentences(Check check, Document document) {
        super(check, document);
    }

    @Override
    void all() {
        order();
        eventsCome();
        fireBurns();
        smokeRises();
        doorsSpread();
        sensorsCount();
        alarmsRest();
        damperMoves();
    }

    private void order() {
        said("There is a minute counter t (initially 0).", () -> {
            SmokeGuard x = new SmokeGuard();
            due("t at first", x.info(7), 0);
            x.pass(1);
            due("t after a minute", x.info(7), 1);
            x.pass(60);
            due("t after 61", x.info(7), 61);
        });
        said("When a minute passes, t increases by 1, and then, in this order:", () -> {
            SmokeGuard x = new SmokeGuard();
            x.set(HOLD, 0);
            x.addEvent(1, 1, 25, 0);
            x.addEvent(1, 0, 0, 1);
            x.addSensor(1, 0, 12, 0, 1);
            x.addSensor(1, 2, 12, 0, 1);
            x.addSensor(0, 0, 39, 0, 1);
            x.addRule(2, 1, 0, 0);
            due("an alarm in the first minute", x.pass(1), 1);
            due("t first, then the event of minute 1, then its fuel burns", x.info(8), 20);
            due("the fire warms", x.info(WARMTH), 12);
            due("then the draft of 12 takes 24 and 6 of 80", x.told(3), 30);
            due("then the door, opened in this minute, takes 12 of 50", x.room(0, 0), 38);
            due("to the other room", x.room(1, 0), 12);
            due("then a sensor counts what came through it", x.sensor(0, 6), 1);
            due("and what went through it", x.sensor(2, 6), 0);
            due("then the room is agreed on", x.room(1, 1), 1);
            due("then the rule sees the alarm", x.info(10), 0);
            due("then the damper moves", x.info(OPENING), 7);
        });
    }

    private void eventsCome() {
        said("The events whose minute is t come.", () -> {
            SmokeGuard x = new SmokeGuard();
            for (int i = 0; i < 20; i++) {
                x.addEvent(i < 10 ? 5 : 6, 2, i + 1, 0);
            }
            x.pass(4);
            due("none before its minute", x.info(14), 20);
            due("the wind before", x.info(WIND), 0);
            x.pass(1);
            due("all of minute 5", x.info(14), 10);
            due("the wind of its last", x.info(WIND), 10);
            due("the next one", x.event(0, 0), 6);
            x.pass(1);
            due("all of minute 6", x.info(14), 0);
            due("the wind of its last", x.info(WIND), 20);
            x.pass(1);
            due("none when there is none", x.told(2), 20);
        });
    }

    private void fireBurns() {
        said("With the strength of the fire: the fuel decreases by (1 + opening / 2), but not below 0 (not at all if "
                + "the strength is 0); the warmth becomes warmth + 6 * strength - warmth / 8, but at most 999.", () -> {
            int[][] fuels = {
                {0, 8, 0}, {1, 8, 0}, {4, 8, 0}, {5, 8, 0}, {6, 8, 1}, {200, 8, 195}, {200, 0, 199}, {200, 1, 199},
                {200, 2, 198}, {200, 3, 198}, {1, 0, 0}, {2, 0, 1}, {0, 0, 0}, {3, 7, 0}, {4, 7, 0}, {5, 7, 1}};
            for (int[] f : fuels) {
                SmokeGuard x = burning(f[0], 0);
                x.set(OPENING, f[1]);
                x.pass(1);
                due("fuel " + f[0] + " with opening " + f[1], x.info(8), f[2]);
            }
            int[][] warmths = {
                {0, 0, 0}, {7, 0, 7}, {8, 0, 7}, {999, 0, 875}, {0, 1, 6}, {0, 24, 6}, {0, 25, 12}, {0, 200, 54},
                {8, 1, 13}, {432, 200, 432}, {440, 200, 439}, {999, 1, 881}, {999, 200, 929}};
            for (int[] w : warmths) {
                SmokeGuard x = burning(w[1], w[0]);
                x.pass(1);
                due("warmth " + w[0] + " with fuel " + w[1], x.info(WARMTH), w[2]);
            }
            SmokeGuard x = new SmokeGuard();
            for (int i = 0; i < 60; i++) {
                x.addFuel(200);
                x.pass(1);
            }
            due("the greatest fire's warmth, from below", x.info(WARMTH), 432);
        });
        said("(Both by the strength before.)", () -> {
            SmokeGuard x = burning(1, 0);
            x.pass(1);
            due("the fuel burns out", x.info(8), 0);
            due("and warms all the same", x.info(WARMTH), 6);
            SmokeGuard y = burning(25, 0);
            y.pass(1);
            due("strength then", y.info(9), 1);
            due("warmth by the strength 2", y.info(WARMTH), 12);
        });
    }

    private static SmokeGuard burning(int fuel, int warmth) {
        SmokeGuard x = new SmokeGuard();
        if (fuel > 0) {
            x.addFuel(fuel);
        }
        x.set(WARMTH, warmth);
        return x;
    }

    /** A minute of a fire of that fuel and of that warmth before, with smoke in room 0. */
    private void rising(int fuel, int warmth, int smoke, int wantSmoke, int wantUp) {
        SmokeGuard x = burning(fuel, warmth);
        x.setSmoke(0, smoke);
        x.pass(1);
        String run = "fuel " + fuel + ", warmth " + warmth + ", smoke " + smoke;
        due("the smoke then with " + run, x.room(0, 0), wantSmoke);
        due("what went up with " + run, x.told(3), wantUp);
    }

    private void smokeRises() {
        said("With the draft then, and that strength: the fire makes 40 * strength of smoke; of this, as much as 2 * "
                + "draft goes up the flue, at most all of it; the rest comes into room 0.", () -> {
            rising(24, 14, 100, 93, 47); // draft 19: 38 of 40, then 9 of 102
            rising(24, 16, 100, 90, 50); // draft 20: just all 40, then 10 of 100
            rising(24, 17, 100, 90, 50); // draft 21: not more than 40
            rising(200, 142, 500, 413, 447); // draft 179: 358 of 360, then 89 of 502
            rising(200, 144, 500, 410, 450); // draft 180: just all 360, then 90 of 500
            SmokeGuard x = burning(25, 0);
            x.set(WIND, 12);
            x.pass(1);
            due("no draft: all of the strength before, 2", x.room(0, 0), 80);
            due("nothing went up", x.told(3), 0);
            SmokeGuard y = burning(25, 0);
            y.set(WIND, 11);
            y.pass(1);
            due("the least draft: 2 of it", y.room(0, 0), 78);
            due("went up", y.told(3), 2);
            due("the other room", y.room(1, 0), 0);
        });
        said("Then draft / 2, but at most all of it, of the smoke of room 0 goes up the flue, too.", () -> {
            rising(0, 22, 11, 1, 10); // draft 20
            rising(0, 22, 10, 0, 10);
            rising(0, 22, 9, 0, 9);
            rising(0, 22, 0, 0, 0);
            rising(0, 1, 5, 5, 0); // draft 1
            rising(0, 2, 5, 4, 1); // draft 2
            rising(0, 999, 99999, 99562, 437); // draft 875
            rising(200, 142, 0, 0, 360); // the fire's own 2 that came into the room
            SmokeGuard x = burning(0, 22);
            x.setSmoke(1, 10);
            x.pass(1);
            due("not of room 1", x.room(1, 0), 10);
        });
    }

    /** A minute with smoke in some rooms and some doors open, given as pairs. */
    private static SmokeGuard spread(int[] smoke, int... doors) {
        SmokeGuard x = rooms(smoke.length);
        for (int room = 0; room < smoke.length; room++) {
            x.setSmoke(room, smoke[room]);
        }
        for (int i = 0; i + 1 < doors.length; i += 2) {
            x.setDoor(doors[i], doors[i + 1], true);
        }
        x.pass(1);
        return x;
    }

    private void rooms(String run, SmokeGuard x, int outside, int... smoke) {
        for (int room = 0; room < smoke.length; room++) {
            due(run + ": room " + room, x.room(room, 0), smoke[room]);
        }
        due(run + ": outside", x.told(4), outside);
    }

    private void doorsSpread() {
        said("Through the doors, all at the same time, by the smoke as it is then: through an open door between the "
                + "rooms a and b (a less than b), (smoke of a - smoke of b) / 4 goes from a to b (if this is negative, "
                + "its opposite from b to a); through an open door from room a to the outside, (smoke of a) / 4 goes "
                + "out.", () -> {
            rooms("closed doors", spread(new int[] {400, 0, 7, 99999}), 0, 400, 0, 7, 99999);
            rooms("3 through a door", spread(new int[] {3, 0}, 0, 1), 0, 3, 0);
            rooms("4 through a door", spread(new int[] {4, 0}, 0, 1), 0, 3, 1);
            rooms("3 the other way", spread(new int[] {0, 3}, 0, 1), 0, 0, 3);
            rooms("4 the other way", spread(new int[] {0, 4}, 0, 1), 0, 1, 3);
            rooms("alike", spread(new int[] {50, 50}, 0, 1), 0, 50, 50);
            rooms("the most", spread(new int[] {0, 99999}, 0, 1), 0, 24999, 75000);
            rooms("3 to the outside", spread(new int[] {3}, 0, 1), 0, 3);
            rooms("4 to the outside", spread(new int[] {4}, 0, 1), 1, 3);
            rooms("the most to the outside", spread(new int[] {99999}, 0, 1), 24999, 75000);
            rooms("a row of doors", spread(new int[] {400, 0, 0, 0}, 0, 1, 1, 2, 2, 3, 3, 4), 0, 300, 100, 0, 0);
            rooms("from the end", spread(new int[] {0, 0, 0, 400}, 0, 1, 1, 2, 2, 3, 3, 4), 100, 0, 0, 100, 200);
            rooms("all doors", spread(new int[] {100, 200, 0, 40}, 0, 1, 0, 2, 0, 3, 0, 4, 1, 2, 1, 3, 1, 4, 2, 3, 2, 4,
                    3, 4), 85, 60, 35, 85, 75);
        });
        said("A room with more than 99999 then has 99999 (the doors work by what there was before, also if it is more; "
                + "none can fall below 0).", () -> {
            rooms("99959 + 40", smoking(99959, 0), 0, 99999, 0);
            rooms("99960 + 40", smoking(99960, 0), 0, 99999, 0);
            rooms("99999 + 40", smoking(99999, 0), 0, 99999, 0);
            rooms("100039 to the outside", smoking(99999, 0, 0, 2), 25009, 75030, 0);
            rooms("100039 to the outside and to 0", smoking(99999, 0, 0, 1, 0, 2), 25009, 50021, 25009);
            rooms("100039 to 99999", smoking(99999, 99999, 0, 1), 0, 99999, 99999);
            rooms("100039 to 99999 and to the outside", smoking(99999, 99999, 0, 1, 0, 2), 25009, 75020, 99999);
            rooms("8 through four doors", spread(new int[] {8, 0, 0, 0}, 0, 1, 0, 2, 0, 3, 0, 4), 2, 0, 2, 2, 2);
            rooms("4 through four doors", spread(new int[] {4, 0, 0, 0}, 0, 1, 0, 2, 0, 3, 0, 4), 1, 0, 1, 1, 1);
            rooms("3 through four doors", spread(new int[] {3, 0, 0, 0}, 0, 1, 0, 2, 0, 3, 0, 4), 0, 3, 0, 0, 0);
            rooms("4 of the last room", spread(new int[] {0, 0, 0, 4}, 3, 0, 3, 1, 3, 2, 3, 4), 1, 1, 1, 1, 0);
        });
    }

    /** A minute of the least fire without any draft. */
    private static SmokeGuard smoking(int smoke0, int smoke1, int... doors) {
        SmokeGuard x = new SmokeGuard();
        x.addFuel(24);
        x.set(WIND, 60);
        x.setSmoke(0, smoke0);
        x.setSmoke(1, smoke1);
        for (int i = 0; i + 1 < doors.length; i += 2) {
            x.setDoor(doors[i], doors[i + 1], true);
        }
        x.pass(1);
        return x;
    }

    private void sensorsCount() {
        said("For each sensor, the count increases by 1 (up to 99) if it is excited, otherwise it becomes 0.", () -> {
            SmokeGuard x = new SmokeGuard();
            for (int i = 0; i < 8; i++) {
                x.addSensor(i % 2, 0, i < 4 ? 100 : 50, i, 1);
                x.setFault(i, i % 3);
            }
            x.setSmoke(0, 100);
            x.setSmoke(1, 100);
            for (int minutes : new int[] {60, 38, 1, 1}) {
                x.pass(minutes);
            }
            x.setSmoke(1, 99);
            x.pass(1);
            for (int i = 0; i < 8; i++) {
                due("the count of sensor " + i, x.sensor(i, 6), i == 1 || i == 3 ? 0 : 99);
            }
            x.setSmoke(1, 100);
            x.pass(1);
            due("it counts from 0 again", x.sensor(1, 6), 1);
            SmokeGuard y = burning(2, 0);
            y.set(WIND, 60);
            y.set(OPENING, 0);
            y.addSensor(0, 1, 1, 0, 1);
            y.addSensor(0, 2, 12, 0, 1);
            y.pass(1);
            due("no draft, and a fire at the end of the minute", y.sensor(0, 6), 1);
            due("warmth 6 then", y.sensor(1, 6), 0);
            y.pass(1);
            due("no draft, but the fire burnt out in the minute", y.sensor(0, 6), 0);
            due("warmth 12 then", y.sensor(1, 6), 1);
        });
    }

    /** Each of two rooms has two stuck sensors; the room is agreed on as long as they are. */
    private static SmokeGuard stuck(int hold) {
        SmokeGuard x = new SmokeGuard();
        x.set(HOLD, hold);
        for (int i = 0; i < 4; i++) {
            x.addSensor(i % 2, 0, 9999, 0, 1);
            x.setFault(i, 2);
        }
        return x;
    }

    private void alarmsRest() {
        said("For each room: its rest of muting decreases by 1, if it is above 0; its rest of alarm becomes the hold "
                + "plus 1 if the room is agreed on, otherwise it decreases by 1, if it is above 0.", () -> {
            for (int hold : new int[] {0, 1, 30}) {
                SmokeGuard x = stuck(hold);
                x.mute(0, 60);
                x.mute(1, 1);
                x.pass(1);
                due("muting 60", x.room(0, 2), 59);
                due("muting 1", x.room(1, 2), 0);
                due("the rest of alarm of room 0, muted or not", x.room(0, 1), hold + 1);
                due("the rest of alarm of room 1", x.room(1, 1), hold + 1);
                due("muting first", x.room(1, 3), 1);
                x.setFault(1, 0);
                for (int rest = hold; rest >= 0; rest--) {
                    x.pass(1);
                    due("room 1's rest of alarm decreases", x.room(1, 1), rest);
                    due("room 0's does not", x.room(0, 1), hold + 1);
                }
                x.pass(1);
                due("not below 0", x.room(1, 1), 0);
                due("muting 0 not below 0", x.room(1, 2), 0);
            }
            SmokeGuard x = stuck(30);
            x.pass(1);
            x.set(HOLD, 0);
            due("the hold alone changes no rest", x.room(0, 1), 31);
            x.setFault(0, 1);
            x.pass(1);
            due("not agreed on: the rest goes on from 31", x.room(0, 1), 30);
            due("agreed on: the new hold plus 1", x.room(1, 1), 1);
            x.set(QUORUM, 3);
            x.pass(1);
            due("below the quorum", x.room(1, 1), 0);
        });
    }

    private void damperMoves() {
        said("The first rule (with the lowest number) that applies, if there is one, gives its opening to the "
                + "target.", () -> {
            SmokeGuard x = new SmokeGuard();
            x.setTarget(5);
            x.pass(1);
            due("no rule", x.info(10), 5);
            x.addRule(0, 0, 10, 0);
            x.pass(1);
            due("none applies", x.info(10), 5);
            x.addRule(0, 0, 5, 2);
            x.addRule(0, 0, 4, 3);
            x.setSmoke(0, 5);
            x.pass(1);
            due("the second and the third apply", x.info(10), 2);
            x.setSmoke(0, 10);
            x.pass(1);
            due("all apply", x.info(10), 0);
            x.setSmoke(0, 4);
            x.pass(1);
            due("the third applies", x.info(10), 3);
            x.setSmoke(0, 0);
            x.pass(1);
            due("none applies again", x.info(10), 3);
            SmokeGuard y = new SmokeGuard();
            for (int i = 0; i < 8; i++) {
                y.addRule(i < 7 ? 1 : 3, 0, 0, i < 7 ? 1 : 7);
            }
            y.pass(1);
            due("the last of eight", y.info(10), 7);
        });
        said("If the damper is not jammed, its opening changes by 1 toward the target, if it is not the target.",
                () -> {
            SmokeGuard x = new SmokeGuard();
            x.setTarget(0);
            for (int opening = 7; opening >= 0; opening--) {
                x.pass(1);
                due("down", x.info(OPENING), opening);
            }
            x.pass(1);
            due("at the least", x.info(OPENING), 0);
            x.setTarget(8);
            for (int opening = 1; opening <= 8; opening++) {
                x.pass(1);
                due("up", x.info(OPENING), opening);
            }
            x.pass(1);
            due("at the most", x.info(OPENING), 8);
            due("minutes in which it moved", x.told(1), 16);
            x.set(JAMMED, 1);
            x.setTarget(3);
            x.pass(5);
            due("jammed", x.info(OPENING), 8);
            x.set(JAMMED, 0);
            x.pass(1);
            due("freed", x.info(OPENING), 7);
        });
    }
}
