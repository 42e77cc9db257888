/** Places where the document was once thought unclear: what its words decide, and the numbers that follow. */
public final class DecidedTest {
    private static final Check check = new Check("DecidedTest");

    public static void main(String[] args) {
        beginKeepsRecords();
        draftSensorsCount();
        alarmsBeginInMinutes();
        justThisOneIsDead();
        check.end();
    }

    /** "Undoable." and "At most 4 records are kept; when one more is made, the oldest is dropped." */
    private static void beginKeepsRecords() {
        for (int made = 0; made <= 6; made++) {
            check.about("begin behind " + made + " records");
            SmokeGuard x = new SmokeGuard();
            for (int i = 1; i <= made; i++) {
                x.setSmoke(0, i);
            }
            check.due("begin(3)", x.begin(3), 2);
            int left = Math.min(made, 3);
            check.due("undo() of begin", x.undo(), left);
            check.due("the rooms", x.info(6), 2);
            check.due("the smoke", x.room(0, 0), made);
            for (int i = 1; i <= left; i++) {
                check.due("undo() of an earlier call", x.undo(), left - i);
                check.due("the smoke before it", x.room(0, 0), made - i);
            }
            check.state("undo() beyond", x::undo);
        }
        SmokeGuard x = new SmokeGuard();
        x.setSmoke(0, 7);
        check.about("");
        check.due("begin(1)", x.begin(1), 2);
        check.due("begin(4)", x.begin(4), 1);
        check.due("undo() of begin(4)", x.undo(), 2);
        check.due("undo() of begin(1)", x.undo(), 1);
        check.due("the smoke then", x.room(0, 0), 7);
    }

    /** "and then, in this order": step 5 comes after step 2, and only the steps 2 and 3 name the strength before. */
    private static void draftSensorsCount() {
        SmokeGuard x = new SmokeGuard();
        x.set(0, 60);
        x.addSensor(0, 1, 9999, 0, 1);
        x.addFuel(6); // 5 burn in a minute
        int[] counts = {1, 0, 0};
        int[] smoke = {40, 80, 80};
        for (int i = 0; i < counts.length; i++) {
            x.pass(1);
            check.due("count after minute " + (i + 1), x.sensor(0, 6), counts[i]);
            check.due("smoke after minute " + (i + 1), x.room(0, 0), smoke[i]);
        }
        SmokeGuard lit = new SmokeGuard();
        lit.set(0, 60);
        lit.addSensor(0, 1, 9999, 0, 1);
        lit.addEvent(1, 1, 6, 0);
        lit.pass(1);
        check.due("count when the fire is lit in the minute", lit.sensor(0, 6), 1);
        SmokeGuard drawing = new SmokeGuard();
        drawing.addSensor(0, 1, 6, 0, 1);
        drawing.addFuel(24);
        drawing.pass(1);
        check.due("the draft is that of the minute's end, 6, not of its start, 0", drawing.sensor(0, 6), 0);
    }

    /** Two stuck sensors agree on room 0 in every minute. */
    private static SmokeGuard stuck() {
        SmokeGuard x = new SmokeGuard();
        for (int i = 0; i < 2; i++) {
            x.addSensor(0, 0, 9999, 0, 1);
            x.setFault(i, 2);
        }
        return x;
    }

    /**
     * "a room that has an alarm at the end of a minute and had none at the end of the one before (or at the
     * beginning)"
     */
    private static void alarmsBeginInMinutes() {
        SmokeGuard x = stuck();
        check.due("none at the beginning", x.pass(1), 1);
        check.due("one at the beginning", x.pass(1), 0);
        x.mute(0, 2);
        check.due("muted at the beginning, and at the end of the first of two", x.pass(2), 1);
        x.mute(0, 9);
        check.due("muted at the end", x.pass(1), 0);
        x.mute(0, 0);
        check.due("an alarm at the beginning, as it was freed before", x.pass(1), 0);
        x.mute(0, 1);
        check.due("none at the beginning, as it was muted before", x.pass(1), 1);
        check.due("told(0)", x.told(0), 3);
        x.undo();
        x.undo();
        check.due("an alarm at the beginning, as muting is undone", x.pass(1), 0);
        check.due("told(0) then", x.told(0), 2);
        x.undo();
        x.mute(0, 1);
        x.mute(0, 0);
        check.due("muted and freed before the first minute", x.pass(3), 0);
    }

    /** "if just this one were dead now": one is dead, the others are as they are. */
    private static void justThisOneIsDead() {
        SmokeGuard x = new SmokeGuard();
        for (int i = 0; i < 4; i++) {
            x.addSensor(0, 0, 100, 0, 1);
        }
        x.setFault(0, 2);
        check.due("one stuck alone raises no alarm", x.neededSensors(0, 9), 0);
        x.setFault(1, 2);
        check.due("two stuck ones, both needed", x.neededSensors(0, 9), 3);
        x.setFault(2, 2);
        check.due("three stuck ones, none needed", x.neededSensors(0, 9), 0);
        x.setFault(2, 1);
        x.setFault(3, 1);
        check.due("two stuck, two dead, which stay so", x.neededSensors(0, 9), 3);
        x.setSmoke(0, 100);
        check.due("the dead ones vote as little with smoke", x.neededSensors(0, 9), 3);
        x.setFault(2, 0);
        check.due("one of them alive", x.neededSensors(0, 9), 0);
        x.setFault(0, 0);
        x.setFault(1, 1);
        check.due("two alive, two dead", x.neededSensors(0, 9), 5);
        x.addEvent(9, 3, 1, 2);
        check.due("an event makes a dead one stuck in the last minute", x.neededSensors(0, 9), 0);
        check.due("and a minute too late", x.neededSensors(0, 8), 5);
        check.due("their faults", x.sensor(0, 5) * 1000 + x.sensor(1, 5) * 100 + x.sensor(2, 5) * 10 + x.sensor(3, 5),
                101);
    }
}
