/** Promises 22 to 27: forecasts, which change nothing. */
public final class ThoughtTest {
    private static final Check check = new Check("ThoughtTest");

    public static void main(String[] args) {
        alarmIn();
        smokeAfter();
        peak();
        bestOpening();
        neededSensors();
        neededByOtherRooms();
        burnsFor();
        nothingChanges();
        check.end();
    }

    private static void alarmIn() { // promise 22
        SmokeGuard x = new SmokeGuard();
        x.addSensor(0, 0, 10, 0, 1);
        x.addSensor(0, 0, 10, 2, 1);
        check.due("no smoke", x.alarmIn(0, 200), -1);
        x.setSmoke(0, 10);
        check.due("alarmIn(0, 2)", x.alarmIn(0, 2), -1);
        check.due("alarmIn(0, 3)", x.alarmIn(0, 3), 3);
        check.due("alarmIn(0, 200)", x.alarmIn(0, 200), 3);
        check.due("alarmIn(1, 200)", x.alarmIn(1, 200), -1);
        x.mute(0, 5);
        check.due("muted for 5", x.alarmIn(0, 200), 5);
        x.mute(0, 0);
        x.addEvent(2, 3, 1, 2);
        check.due("an event makes one stuck", x.alarmIn(0, 200), 2);
        x.pass(1);
        check.due("a minute later", x.alarmIn(0, 1), 1);
        x.pass(1);
        check.due("now", x.alarmIn(0, 1), 0);
        check.index("alarmIn(2, 1)", () -> x.alarmIn(2, 1));
        check.index("alarmIn(-1, 1)", () -> x.alarmIn(-1, 1));
        check.index("the index first", () -> x.alarmIn(2, 0));
        check.argument("alarmIn(0, 0) though it has one now", () -> x.alarmIn(0, 0));
        check.argument("alarmIn(0, 201)", () -> x.alarmIn(0, 201));
    }

    private static void smokeAfter() { // promise 23
        SmokeGuard x = new SmokeGuard();
        x.setSmoke(0, 1000);
        x.setDoor(0, 2, true);
        check.due("smokeAfter(0, 1)", x.smokeAfter(0, 1), 750);
        check.due("smokeAfter(0, 2)", x.smokeAfter(0, 2), 563);
        check.due("smokeAfter(0, 3)", x.smokeAfter(0, 3), 423);
        check.due("smokeAfter(0, 200)", x.smokeAfter(0, 200), 3);
        check.due("smokeAfter(1, 200)", x.smokeAfter(1, 200), 0);
        x.addEvent(3, 0, 0, 2);
        check.due("an event closes the door", x.smokeAfter(0, 200), 563);
        SmokeGuard y = new SmokeGuard();
        y.addFuel(25);
        y.addRule(1, 0, 9999, 0);
        check.due("with the rules", y.smokeAfter(0, 2), 55);
        check.index("smokeAfter(2, 1)", () -> x.smokeAfter(2, 1));
        check.index("smokeAfter(-1, 1)", () -> x.smokeAfter(-1, 1));
        check.index("the index first", () -> x.smokeAfter(2, 0));
        check.argument("smokeAfter(0, 0)", () -> x.smokeAfter(0, 0));
        check.argument("smokeAfter(0, 201)", () -> x.smokeAfter(0, 201));
    }

    private static void peak() { // promise 24
        SmokeGuard x = new SmokeGuard();
        x.addFuel(25);
        check.due("peak(0, 8, 1)", x.peak(0, 8, 1), 50);
        check.due("peak(0, 4, 1)", x.peak(0, 4, 1), 65);
        check.due("peak(0, 0, 1)", x.peak(0, 0, 1), 80);
        check.due("peak(0, 8, 2): 50, then 48", x.peak(0, 8, 2), 50);
        x.addRule(1, 0, 9999, 0);
        check.due("without the rules", x.peak(0, 8, 2), 50);
        x.setTarget(0);
        check.due("the target is given, too", x.peak(0, 8, 2), 50);
        check.due("peak(1, 0, 9)", x.peak(1, 0, 9), 0);
        x.setDoor(0, 1, true);
        check.due("peak(1, 0, 1)", x.peak(1, 0, 1), 20);
        SmokeGuard y = new SmokeGuard();
        y.setSmoke(0, 1000);
        y.setDoor(0, 2, true);
        check.due("at the end of minutes, not now", y.peak(0, 8, 5), 750);
        y.setDoor(0, 2, false);
        y.addEvent(3, 1, 50, 0);
        check.due("before the event", y.peak(0, 0, 2), 1000);
        check.due("with the event", y.peak(0, 0, 3), 1120);
        y.set(3, 1);
        y.set(4, 3);
        check.due("jammed or not", y.peak(0, 0, 3), 1120);
        check.index("peak(2, 0, 1)", () -> x.peak(2, 0, 1));
        check.index("peak(-1, 0, 1)", () -> x.peak(-1, 0, 1));
        check.index("the index first", () -> x.peak(2, 9, 0));
        check.argument("peak(0, 9, 1)", () -> x.peak(0, 9, 1));
        check.argument("peak(0, -1, 1)", () -> x.peak(0, -1, 1));
        check.argument("peak(0, 0, 0)", () -> x.peak(0, 0, 0));
        check.argument("peak(0, 0, 201)", () -> x.peak(0, 0, 201));
    }

    private static void bestOpening() { // promise 25
        SmokeGuard x = new SmokeGuard();
        check.due("all are alike: the smallest", x.bestOpening(200), 0);
        x.addFuel(25);
        check.due("the widest draws most", x.bestOpening(1), 8);
        SmokeGuard y = new SmokeGuard();
        y.addFuel(1);
        y.set(5, 80);
        check.due("draft 19 draws all, 9 does not", y.bestOpening(1), 2);
        y.setSmoke(1, 500);
        check.due("the other room does not matter", y.bestOpening(1), 2);
        y.set(5, 180);
        check.due("draft 20 draws all, 0 does not", y.bestOpening(1), 1);
        SmokeGuard z = new SmokeGuard();
        z.addFuel(24);
        z.set(0, 60);
        z.set(5, 50);
        check.due("no draft at all, each fire lasts 5 minutes", z.bestOpening(4), 0);
        check.due("no draft at all: the longest fire makes the most", z.bestOpening(10), 8);
        check.argument("bestOpening(0)", () -> x.bestOpening(0));
        check.argument("bestOpening(201)", () -> x.bestOpening(201));
        check.argument("bestOpening(-1)", () -> x.bestOpening(-1));
    }

    private static SmokeGuard weighted() {
        SmokeGuard x = new SmokeGuard();
        x.addSensor(0, 0, 10, 0, 3);
        x.addSensor(0, 0, 10, 0, 1);
        x.addSensor(0, 0, 10, 0, 1);
        x.setSmoke(0, 10);
        return x;
    }

    private static void neededSensors() { // promise 26
        SmokeGuard x = weighted();
        check.due("any two of three do", x.neededSensors(0, 5), 0);
        x.set(1, 4);
        check.due("quorum 4 needs the weight 3", x.neededSensors(0, 5), 1);
        x.set(1, 5);
        check.due("quorum 5 needs all", x.neededSensors(0, 5), 7);
        x.set(1, 6);
        check.due("quorum 6: no alarm at all", x.neededSensors(0, 5), 0);
        x.set(1, 4);
        x.addEvent(2, 3, 0, 0);
        check.due("dead until the event", x.neededSensors(0, 1), 1);
        check.due("mended by the event", x.neededSensors(0, 2), 0);
        x.undo();
        x.mute(0, 5);
        check.due("muted all the time", x.neededSensors(0, 4), 0);
        check.due("muted at first", x.neededSensors(0, 5), 1);
        x.setFault(1, 1);
        check.due("one dead, two needed", x.neededSensors(0, 5), 5);
        x.setFault(0, 2);
        check.due("a stuck one is needed, too", x.neededSensors(0, 5), 5);
        SmokeGuard y = weighted();
        y.set(1, 5);
        y.pass(1);
        check.due("a held alarm needs none", y.neededSensors(0, 3), 0);
        y.setSmoke(0, 0);
        y.set(2, 0);
        y.pass(4);
        check.due("an alarm now, none at the end of a minute", y.room(0, 1), 0);
        y.setSmoke(0, 10);
        y.pass(1);
        y.setSmoke(0, 0);
        check.due("an alarm now", y.room(0, 3), 1);
        check.due("none at the end of any", y.neededSensors(0, 3), 0);
        SmokeGuard z = new SmokeGuard();
        z.addSensor(1, 0, 10, 0, 3);
        for (int i = 1; i < 7; i++) {
            z.addSensor(0, 2, 10, 0, 3);
        }
        z.addSensor(1, 0, 10, 0, 3);
        z.setSmoke(1, 10);
        check.due("the first and the last of eight", z.neededSensors(1, 3), 129);
        check.index("neededSensors(2, 1)", () -> x.neededSensors(2, 1));
        check.index("neededSensors(-1, 1)", () -> x.neededSensors(-1, 1));
        check.index("the index first", () -> x.neededSensors(2, 0));
        check.argument("neededSensors(0, 0)", () -> x.neededSensors(0, 0));
        check.argument("neededSensors(0, 201)", () -> x.neededSensors(0, 201));
    }

    /** An alarm of room 1 closes the damper, and only so does room 0 come to its alarm. */
    private static void neededByOtherRooms() {
        SmokeGuard x = new SmokeGuard();
        x.addFuel(100);
        x.set(5, 200);
        x.setSmoke(1, 50);
        x.addSensor(0, 0, 30, 0, 1);
        x.addSensor(1, 0, 50, 0, 1);
        x.addSensor(0, 0, 30, 0, 1);
        x.addSensor(1, 0, 50, 0, 1);
        x.addRule(2, 1, 0, 0);
        check.due("alarmIn(0, 30)", x.alarmIn(0, 30) > 1, true);
        check.due("sensors of both rooms are needed", x.neededSensors(0, 30), 15);
        check.due("room 1 needs its own", x.neededSensors(1, 30), 10);
    }

    private static void burnsFor() { // promise 27
        SmokeGuard x = new SmokeGuard();
        x.addEvent(1, 1, 10, 0);
        check.due("no fuel now, though some comes", x.burnsFor(9), 0);
        SmokeGuard y = new SmokeGuard();
        y.addFuel(10);
        check.due("burnsFor(1)", y.burnsFor(1), -1);
        check.due("burnsFor(2)", y.burnsFor(2), 2);
        check.due("burnsFor(200)", y.burnsFor(200), 2);
        y.setTarget(0);
        check.due("5, 4, 4", y.burnsFor(200), 3);
        y.set(4, 0);
        check.due("closed", y.burnsFor(200), 10);
        y.set(4, 8);
        y.setTarget(8);
        y.addEvent(3, 1, 10, 0);
        check.due("fuel that comes too late", y.burnsFor(200), 2);
        y.addEvent(2, 1, 10, 0);
        check.due("fuel that comes in time", y.burnsFor(200), 6);
        check.argument("burnsFor(0)", () -> y.burnsFor(0));
        check.argument("burnsFor(201)", () -> y.burnsFor(201));
        check.argument("burnsFor(0) without fuel", () -> x.burnsFor(0));
        SmokeGuard z = new SmokeGuard();
        z.addFuel(200);
        z.set(4, 0);
        z.setTarget(0);
        check.due("burnsFor(199)", z.burnsFor(199), -1);
        check.due("burnsFor(200) for 200", z.burnsFor(200), 200);
    }

    private static void nothingChanges() {
        SmokeGuard x = weighted();
        x.addFuel(120);
        x.setDoor(0, 1, true);
        x.setDoor(2, 1, true);
        x.addRule(2, 0, 0, 8);
        x.addRule(3, 0, 9, 1);
        x.addEvent(3, 4, 0, 0);
        x.addEvent(5, 0, 1, 2);
        x.addEvent(7, 3, 2, 1);
        x.pass(2);
        long before = x.checksum();
        x.alarmIn(1, 200);
        check.due("checksum after alarmIn", x.checksum(), before);
        x.smokeAfter(0, 200);
        check.due("checksum after smokeAfter", x.checksum(), before);
        x.peak(0, 0, 200);
        check.due("checksum after peak", x.checksum(), before);
        x.bestOpening(200);
        check.due("checksum after bestOpening", x.checksum(), before);
        x.neededSensors(0, 200);
        check.due("checksum after neededSensors", x.checksum(), before);
        x.burnsFor(200);
        check.due("checksum after burnsFor", x.checksum(), before);
        long smoke = x.smokeAfter(1, 10);
        x.pass(10);
        check.due("it comes as it was thought", x.room(1, 0), smoke);
    }
}
