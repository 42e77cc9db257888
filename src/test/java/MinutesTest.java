/** The description's seven steps of a minute, and promises 20 and 21, by numbers worked out by hand. */
public final class MinutesTest {
    private static final Check check = new Check("MinutesTest");

    public static void main(String[] args) {
        passArguments();
        eventsCome();
        fireBurns();
        smokeRises();
        doorsSpread();
        doorsAddUp();
        doorsAndTheMost();
        sensorsCount();
        allSensorsCount();
        alarmsAreHeld();
        alarmsBegin();
        rulesMoveTheDamper();
        jammedDamper();
        told();
        check.end();
    }

    private static void passArguments() { // promise 20
        SmokeGuard x = new SmokeGuard();
        check.argument("pass(0)", () -> x.pass(0));
        check.argument("pass(-1)", () -> x.pass(-1));
        check.argument("pass(61)", () -> x.pass(61));
        check.due("t after wrong ones", x.info(7), 0);
        check.due("pass(60)", x.pass(60), 0);
        check.due("pass(1)", x.pass(1), 0);
        check.due("t", x.info(7), 61);
    }

    private static void eventsCome() { // step 1
        SmokeGuard x = new SmokeGuard();
        x.addSensor(0, 0, 9999, 0, 1);
        x.addEvent(1, 0, 0, 1);
        x.addEvent(2, 0, 1, 0);
        x.addEvent(2, 0, 0, 1);
        x.addEvent(2, 0, 1, 0);
        x.addEvent(3, 2, 10, 0);
        x.addEvent(3, 2, 20, 0);
        x.addEvent(3, 3, 0, 1);
        x.addEvent(3, 3, 0, 2);
        x.addEvent(4, 4, 0, 0);
        x.addEvent(5, 4, 0, 0);
        x.addEvent(6, 1, 150, 0);
        x.addEvent(6, 1, 150, 0);
        x.addEvent(7, 0, 1, 2);
        x.setSmoke(0, 40);
        x.pass(1);
        check.due("minute 1 opens a door", x.isOpen(0, 1), true);
        check.due("through which smoke goes at once", x.room(1, 0), 10);
        x.pass(1);
        check.due("minute 2 turns it three times", x.isOpen(0, 1), false);
        check.due("so nothing goes", x.room(1, 0), 10);
        x.pass(1);
        check.due("minute 3: the later wind", x.info(0), 20);
        check.due("minute 3: the later fault", x.sensor(0, 5), 2);
        x.pass(1);
        check.due("minute 4 jams the damper", x.info(3), 1);
        x.pass(1);
        check.due("minute 5 frees it", x.info(3), 0);
        x.pass(1);
        check.due("minute 6: fuel up to 200, then it burns", x.info(8), 195);
        check.due("minute 6: by the strength of 200", x.info(5), 54);
        x.pass(1);
        check.due("minute 7 opens a door to the outside", x.isOpen(1, 2), true);
        check.due("told(2)", x.told(2), 13);
    }

    private static void fireBurns() { // step 2
        int[] burnt = {1, 1, 2, 2, 3, 3, 4, 4, 5};
        for (int opening = 0; opening <= 8; opening++) {
            SmokeGuard x = new SmokeGuard();
            x.addFuel(100);
            x.set(4, opening);
            x.setTarget(opening);
            x.pass(1);
            check.due("fuel after a minute with opening " + opening, x.info(8), 100 - burnt[opening]);
        }
        SmokeGuard x = new SmokeGuard();
        x.addFuel(3);
        x.set(5, 100);
        x.pass(1);
        check.due("fuel not below 0", x.info(8), 0);
        check.due("warmth 100 + 6 - 12", x.info(5), 94);
        x.pass(1);
        check.due("fuel stays 0", x.info(8), 0);
        check.due("warmth 94 - 11", x.info(5), 83);
        x.set(5, 7);
        x.pass(1);
        check.due("warmth 7 stays", x.info(5), 7);
        SmokeGuard y = new SmokeGuard();
        y.addFuel(25);
        y.pass(1);
        check.due("warmth by the strength before: 6 * 2", y.info(5), 12);
        y.pass(1);
        check.due("warmth 12 + 6 - 1", y.info(5), 17);
        y.addFuel(200);
        y.set(5, 999);
        y.pass(1);
        check.due("warmth 999 + 54 - 124", y.info(5), 929);
    }

    private static void smokeRises() { // step 3
        SmokeGuard x = new SmokeGuard();
        x.addFuel(25);
        x.pass(1);
        check.due("80 made, 24 up, then 6", x.room(0, 0), 50);
        check.due("told(3)", x.told(3), 30);
        x.pass(1);
        check.due("40 made, 34 up, then 8", x.room(0, 0), 48);
        check.due("told(3)", x.told(3), 72);
        SmokeGuard y = new SmokeGuard();
        y.addFuel(1);
        y.set(5, 400);
        y.setSmoke(0, 500);
        y.pass(1);
        check.due("all 40 up by draft 356, then 178", y.room(0, 0), 322);
        check.due("told(3)", y.told(3), 218);
        y.setSmoke(0, 100);
        y.pass(1);
        check.due("at most all of the room's", y.room(0, 0), 0);
        check.due("told(3)", y.told(3), 318);
        SmokeGuard z = new SmokeGuard();
        z.addFuel(25);
        z.set(0, 12);
        z.pass(1);
        check.due("the wind takes the draft", z.room(0, 0), 80);
        check.due("told(3)", z.told(3), 0);
    }

    private static void doorsSpread() { // step 4
        SmokeGuard x = new SmokeGuard();
        x.begin(4);
        x.setSmoke(0, 100);
        x.setSmoke(1, 107);
        x.setSmoke(2, 0);
        x.setSmoke(3, 1003);
        x.setDoor(0, 1, true); // 7 / 4 = 1 from 1 to 0
        x.setDoor(0, 2, true); // 25 from 0 to 2
        x.setDoor(1, 3, true); // 896 / 4 = 224 from 3 to 1
        x.setDoor(2, 4, true); // 0 / 4 goes outside
        x.setDoor(3, 4, true); // 250 goes outside
        x.pass(1);
        check.due("room 0", x.room(0, 0), 76);
        check.due("room 1", x.room(1, 0), 330);
        check.due("room 2: by what there was before", x.room(2, 0), 25);
        check.due("room 3", x.room(3, 0), 529);
        check.due("told(4)", x.told(4), 250);
        SmokeGuard y = new SmokeGuard();
        y.begin(4);
        y.setSmoke(0, 7);
        y.setDoor(0, 1, true);
        y.setDoor(0, 2, true);
        y.setDoor(0, 3, true);
        y.setDoor(0, 4, true);
        y.pass(1);
        check.due("four doors: 7 - 4", y.room(0, 0), 3);
        y.setSmoke(0, 8);
        y.setSmoke(1, 0);
        y.setSmoke(2, 0);
        y.setSmoke(3, 0);
        y.pass(1);
        check.due("four doors: 8 - 8", y.room(0, 0), 0);
        check.due("a quarter", y.room(3, 0), 2);
        check.due("told(4)", y.told(4), 3);
    }

    /** Steps 3 and 4 put nothing into a room that has no open door, and add up what comes through two. */
    private static void doorsAddUp() {
        SmokeGuard x = new SmokeGuard();
        x.begin(4);
        x.setSmoke(0, 40);
        x.setSmoke(1, 80);
        x.setDoor(0, 2, true);
        x.setDoor(1, 2, true);
        x.pass(1);
        check.due("room 0", x.room(0, 0), 30);
        check.due("room 1", x.room(1, 0), 60);
        check.due("room 2 from both", x.room(2, 0), 30);
        check.due("room 3", x.room(3, 0), 0);
    }

    private static void doorsAndTheMost() { // step 4: 99999
        SmokeGuard x = new SmokeGuard();
        x.addFuel(200);
        x.set(0, 60);
        x.setSmoke(0, 99999);
        x.pass(1);
        check.due("no more than 99999", x.room(0, 0), 99999);
        x.addFuel(200);
        x.set(5, 0);
        x.setDoor(0, 2, true);
        x.pass(1);
        check.due("the door works by 100359", x.told(4), 25089);
        check.due("room 0 then", x.room(0, 0), 75270);
        SmokeGuard y = new SmokeGuard();
        y.addFuel(200);
        y.set(0, 60);
        y.setSmoke(0, 99999);
        y.setSmoke(1, 99999);
        y.setDoor(0, 1, true);
        y.pass(1);
        check.due("room 0 has 99999", y.room(0, 0), 99999);
        check.due("room 1 has 99999", y.room(1, 0), 99999);
    }

    private static void sensorsCount() { // step 5: by the smoke, the draft and the strength then
        SmokeGuard x = new SmokeGuard();
        x.addSensor(1, 0, 10, 0, 1);
        x.addSensor(0, 1, 9999, 0, 1);
        x.addSensor(0, 2, 6, 0, 1);
        x.setSmoke(0, 40);
        x.setDoor(0, 1, true);
        x.addFuel(1);
        x.set(0, 6);
        x.pass(1);
        check.due("room 1 has smoke of this minute", x.room(1, 0), 20);
        check.due("a smoke sensor counts it", x.sensor(0, 6), 1);
        check.due("the fire went out in this minute", x.sensor(1, 6), 0);
        check.due("warmth 6 of this minute", x.sensor(2, 6), 1);
        x.addFuel(20);
        x.pass(1);
        check.due("no draft with a fire", x.sensor(1, 6), 1);
        check.due("room 1's second minute", x.sensor(0, 6), 2);
    }

    private static void allSensorsCount() {
        SmokeGuard x = new SmokeGuard();
        for (int i = 0; i < 8; i++) {
            x.addSensor(i % 2, 0, i + 1, 0, 1);
        }
        x.setSmoke(0, 5);
        x.setSmoke(1, 6);
        x.pass(1);
        int[] counts = {1, 1, 1, 1, 1, 1, 0, 0};
        for (int i = 0; i < 8; i++) {
            check.due("the count of sensor " + i, x.sensor(i, 6), counts[i]);
        }
        check.due("room 0's votes", x.room(0, 5), 21);
        check.due("room 1's votes", x.room(1, 5), 42);
    }

    private static SmokeGuard guarded() {
        SmokeGuard x = new SmokeGuard();
        x.addSensor(0, 0, 10, 0, 1);
        x.addSensor(0, 0, 10, 1, 1);
        x.addSensor(1, 0, 10, 0, 1);
        x.addSensor(1, 0, 10, 0, 1);
        return x;
    }

    private static void alarmsAreHeld() { // step 6
        SmokeGuard x = guarded();
        x.setSmoke(0, 10);
        check.due("one vote is no alarm", x.pass(1), 0);
        check.due("rest with one vote", x.room(0, 1), 0);
        check.due("two votes are", x.pass(1), 1);
        check.due("rest is the hold + 1", x.room(0, 1), 4);
        check.due("room 1 has none", x.room(1, 1), 0);
        x.setSmoke(0, 9);
        for (int rest = 3; rest >= 0; rest--) {
            check.due("nothing begins", x.pass(1), 0);
            check.due("the rest of alarm", x.room(0, 1), rest);
            check.due("an alarm while it rests", x.room(0, 3), rest > 0 ? 1 : 0);
        }
        x.pass(1);
        check.due("the rest stays 0", x.room(0, 1), 0);
        SmokeGuard y = guarded();
        y.set(2, 0);
        y.setSmoke(1, 10);
        y.pass(1);
        check.due("hold 0", y.room(1, 1), 1);
        y.setSmoke(1, 0);
        y.pass(1);
        check.due("hold 0, not agreed on", y.room(1, 1), 0);
        SmokeGuard z = guarded();
        z.set(2, 30);
        z.set(1, 3);
        z.setSmoke(1, 10);
        z.pass(1);
        check.due("2 is below the quorum 3", z.room(1, 1), 0);
        z.set(1, 2);
        z.pass(1);
        check.due("hold 30", z.room(1, 1), 31);
    }

    private static void alarmsBegin() { // promise 20: what pass returns
        SmokeGuard x = guarded();
        x.set(2, 0);
        x.setSmoke(0, 10);
        x.setSmoke(1, 10);
        check.due("both rooms begin", x.pass(5), 2);
        check.due("both go on", x.pass(5), 0);
        x.mute(0, 2);
        check.due("a muted room's alarm begins when the muting ends", x.pass(2), 1);
        x.mute(1, 3);
        x.pass(1);
        x.mute(1, 0);
        check.due("room 1 has an alarm at the beginning", x.room(1, 3), 1);
        check.due("which does not begin in the minutes", x.pass(1), 0);
        x.addEvent(15, 3, 0, 1);
        x.addEvent(17, 3, 0, 0);
        x.addEvent(19, 3, 0, 1);
        x.addEvent(21, 3, 0, 2);
        check.due("t", x.info(7), 14);
        check.due("room 0 ends and begins twice", x.pass(10), 2);
        check.due("told(0)", x.told(0), 5);
    }

    private static void rulesMoveTheDamper() { // step 7
        SmokeGuard x = new SmokeGuard();
        x.addRule(0, 0, 100, 8);
        x.addRule(3, 0, 0, 2);
        x.pass(1);
        check.due("the second rule's target", x.info(10), 2);
        check.due("a step", x.info(4), 7);
        x.pass(3);
        check.due("three more steps", x.info(4), 4);
        x.setSmoke(0, 100);
        x.pass(1);
        check.due("the first rule's target", x.info(10), 8);
        check.due("a step back", x.info(4), 5);
        x.setSmoke(0, 0);
        x.removeRule(1);
        x.pass(9);
        check.due("without a rule the target stays", x.info(10), 8);
        check.due("and is reached", x.info(4), 8);
        check.due("told(1)", x.told(1), 8);
        SmokeGuard y = new SmokeGuard();
        y.addFuel(25);
        y.addRule(1, 0, 12, 0);
        y.pass(1);
        check.due("draft 12 is not less than 12", y.info(10), 8);
        y.set(5, 0);
        y.set(0, 1);
        y.pass(1);
        check.due("draft 5 is", y.info(10), 0);
    }

    private static void jammedDamper() { // step 7
        SmokeGuard x = new SmokeGuard();
        x.set(3, 1);
        x.addRule(3, 0, 0, 5);
        x.pass(4);
        check.due("jammed: the target comes", x.info(10), 5);
        check.due("jammed: the opening stays", x.info(4), 8);
        check.due("told(1)", x.told(1), 0);
        x.addEvent(5, 4, 0, 0);
        x.addEvent(7, 4, 0, 0);
        x.pass(1);
        check.due("freed: it moves in the same minute", x.info(4), 7);
        x.pass(5);
        check.due("jammed again", x.info(4), 6);
        check.due("told(1)", x.told(1), 2);
    }

    private static void told() { // promise 21
        SmokeGuard x = guarded();
        check.argument("told(-1)", () -> x.told(-1));
        check.argument("told(6)", () -> x.told(6));
        x.setSmoke(0, 1000);
        x.setSmoke(1, 1000);
        x.setTarget(6);
        x.setDoor(0, 2, true);
        x.setDoor(1, 2, true);
        x.addEvent(1, 2, 0, 0);
        x.pass(2);
        check.due("told(0)", x.told(0), 2);
        check.due("told(1)", x.told(1), 2);
        check.due("told(2)", x.told(2), 1);
        check.due("told(3)", x.told(3), 0);
        check.due("told(4): 2 * (250 + 187)", x.told(4), 874);
        check.due("told(5): minutes, not rooms", x.told(5), 2);
        x.setSmoke(0, 0);
        x.setSmoke(1, 0);
        x.pass(3);
        check.due("told(5): no minute without an agreement", x.told(5), 2);
        x.alarmIn(0, 100);
        x.smokeAfter(0, 100);
        x.peak(0, 8, 100);
        check.due("thoughts are not told of", x.told(4), 874);
        x.set(4, 0);
        check.due("what is set did not move", x.told(1), 2);
    }
}
