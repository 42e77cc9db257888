import java.util.function.Consumer;

/** Promises 28 and 29: what makes records, what restores them, and the checksum. */
public final class UndoTest {
    private static final Check check = new Check("UndoTest");

    public static void main(String[] args) {
        mostRecords();
        everyUndoable();
        nothingElseRecords();
        wrongCallsChangeNothing();
        undoOfBegin();
        undoOfRowsWrittenOver();
        checksum();
        check.end();
    }

    private static SmokeGuard busy() {
        SmokeGuard x = new SmokeGuard();
        x.begin(3);
        x.addFuel(120);
        x.addSensor(0, 0, 60, 0, 2);
        x.addSensor(0, 2, 20, 1, 1);
        x.addSensor(1, 1, 90, 0, 3);
        x.setDoor(0, 1, true);
        x.setDoor(1, 3, true);
        x.addRule(2, 0, 0, 3);
        x.addRule(1, 0, 40, 8);
        x.addEvent(4, 0, 0, 2);
        x.addEvent(6, 1, 40, 0);
        x.pass(5);
        return x;
    }

    private static void mostRecords() { // promise 28
        SmokeGuard x = new SmokeGuard();
        check.state("undo() of a new one", x::undo);
        for (int i = 1; i <= 6; i++) {
            x.setSmoke(0, i);
        }
        for (int i = 5; i >= 2; i--) {
            check.due("records left", x.undo(), i - 2);
            check.due("the smoke then", x.room(0, 0), i);
        }
        check.state("undo() beyond the fourth", x::undo);
        check.due("the smoke stays", x.room(0, 0), 2);
        x.setSmoke(0, 7);
        x.setSmoke(0, 7);
        check.due("a record though nothing changed", x.undo(), 1);
        check.due("the smoke then", x.room(0, 0), 7);
        check.due("undo() again", x.undo(), 0);
        check.due("the smoke then", x.room(0, 0), 2);
        check.state("undo() is not undone", x::undo);
    }

    private static void undone(String call, Consumer<SmokeGuard> doing) {
        SmokeGuard x = busy();
        x.undo();
        x.undo();
        long before = x.checksum();
        doing.accept(x);
        check.due(call + " changes the checksum", x.checksum() != before, true);
        check.due("undo() after " + call, x.undo(), 2);
        check.due("checksum after undo of " + call, x.checksum(), before);
    }

    private static void everyUndoable() {
        undone("begin(3)", x -> x.begin(3));
        undone("setDoor", x -> x.setDoor(0, 1, true));
        undone("addFuel", x -> x.addFuel(5));
        undone("setTarget", x -> x.setTarget(0));
        for (int k = 0; k <= 5; k++) {
            int what = k;
            undone("set(" + k + ")", x -> x.set(what, what == 3 ? 1 : 5));
        }
        undone("setSmoke", x -> x.setSmoke(2, 5));
        undone("addSensor", x -> x.addSensor(2, 1, 5, 5, 3));
        undone("setFault", x -> x.setFault(1, 2));
        undone("addRule", x -> x.addRule(0, 0, 0, 0));
        undone("removeRule", x -> x.removeRule(0));
        undone("addEvent", x -> x.addEvent(999, 4, 0, 0));
        undone("mute", x -> x.mute(0, 5));
        undone("pass(60)", x -> x.pass(60));
        SmokeGuard x = busy();
        x.removeRule(0);
        x.undo();
        x.mute(0, 60);
        x.set(0, 60);
        check.due("a removed rule is there again", x.info(13), 2);
        x.pass(1);
        check.due("with its opening", x.info(10), 8);
    }

    private static void nothingElseRecords() {
        SmokeGuard x = busy();
        x.undo();
        x.undo();
        long before = x.checksum();
        x.isOpen(0, 1);
        x.info(3);
        x.room(0, 4);
        x.sensor(0, 7);
        x.applying();
        x.event(0, 0);
        x.told(3);
        x.alarmIn(0, 9);
        x.smokeAfter(0, 9);
        x.peak(0, 3, 9);
        x.bestOpening(9);
        x.neededSensors(0, 9);
        x.burnsFor(9);
        check.due("checksum after questions", x.checksum(), before);
        check.due("records after questions", x.undo(), 1);
    }

    private static void wrongCallsChangeNothing() {
        SmokeGuard x = busy();
        for (int i = 3; i < 8; i++) {
            x.addSensor(0, 0, 1, 0, 1);
        }
        for (int i = 2; i < 8; i++) {
            x.addRule(0, 0, 9999, 0);
        }
        for (int i = 1; i < 20; i++) {
            x.addEvent(900, 4, 0, 0);
        }
        x.undo();
        x.addEvent(900, 4, 0, 0);
        x.undo();
        x.addEvent(900, 4, 0, 0);
        long before = x.checksum();
        check.argument("begin(9)", () -> x.begin(9));
        check.index("setDoor(0, 9)", () -> x.setDoor(0, 9, true) ? 1 : 0);
        check.argument("setDoor(1, 1)", () -> x.setDoor(1, 1, true) ? 1 : 0);
        check.argument("addFuel(999)", () -> x.addFuel(999));
        check.argument("setTarget(9)", () -> x.setTarget(9));
        check.argument("set(0, 99)", () -> x.set(0, 99));
        check.index("setSmoke(3, 0)", () -> x.setSmoke(3, 0));
        check.argument("setSmoke(0, -9)", () -> x.setSmoke(0, -9));
        check.state("addSensor", () -> x.addSensor(0, 0, 1, 0, 1));
        check.index("setFault(8, 0)", () -> x.setFault(8, 0));
        check.argument("setFault(0, 8)", () -> x.setFault(0, 8));
        check.state("addRule", () -> x.addRule(0, 0, 0, 0));
        check.index("removeRule(8)", () -> x.removeRule(8));
        check.state("addEvent", () -> x.addEvent(900, 4, 0, 0));
        check.argument("addEvent in the past", () -> x.addEvent(5, 4, 0, 0));
        check.index("mute(3, 0)", () -> x.mute(3, 0));
        check.argument("mute(0, 99)", () -> x.mute(0, 99));
        check.argument("pass(99)", () -> x.pass(99));
        check.due("checksum after wrong calls", x.checksum(), before);
    }

    private static void undoOfBegin() {
        SmokeGuard x = busy();
        long before = x.smokeAfter(1, 30);
        x.begin(1);
        check.due("begin keeps the records", x.undo(), 3);
        check.due("the house is back", x.info(6), 3);
        check.due("t is back", x.info(7), 5);
        check.due("told(2) is back", x.told(2), 1);
        check.due("the event is back", x.event(0, 2), 40);
        check.due("sensors are back", x.sensor(2, 2), 90);
        check.due("all is back", x.smokeAfter(1, 30), before);
    }

    /** What stands in the rows is written over after begin, and must come back all the same. */
    private static void undoOfRowsWrittenOver() {
        SmokeGuard x = new SmokeGuard();
        x.addSensor(1, 2, 30, 4, 3);
        x.setFault(0, 2);
        x.addRule(1, 0, 7, 2);
        x.addEvent(9, 0, 1, 2);
        x.begin(4);
        x.addSensor(3, 1, 31, 5, 2);
        x.addRule(3, 3, 8, 1);
        x.addEvent(8, 2, 3, 0);
        x.undo();
        x.undo();
        x.undo();
        x.undo();
        int[] sensor = {1, 2, 30, 4, 3, 2, 0, 0, 1};
        for (int what = 0; what < 9; what++) {
            check.due("sensor(0, " + what + ") again", x.sensor(0, what), sensor[what]);
        }
        int[] event = {9, 0, 1, 2};
        for (int what = 0; what < 4; what++) {
            check.due("event(0, " + what + ") again", x.event(0, what), event[what]);
        }
        check.due("the rule again", x.applying(), 0);
        x.set(5, 8);
        check.due("it is by the draft", x.applying(), -1);
        x.set(0, 5);
        x.pass(1);
        check.due("and gives its opening", x.info(10), 2);
    }

    private static void checksum() { // promise 29
        SmokeGuard x = new SmokeGuard();
        check.due("checksum of a new one", x.checksum(), byTheFace(x, 0));
        SmokeGuard y = busy();
        check.due("checksum of a busy one", y.checksum(), byTheFace(y, 4));
        y.undo();
        check.due("checksum with three records", y.checksum(), byTheFace(y, 3));
        y.begin(4);
        y.setDoor(3, 4, true);
        check.due("checksum with four rooms", y.checksum(), byTheFace(y, 4));
        y.begin(1);
        y.setDoor(0, 1, true);
        check.due("checksum with one room", y.checksum(), byTheFace(y, 4));
    }

    private static long byTheFace(SmokeGuard x, int records) {
        long h = 18750;
        for (int what = 0; what <= 14; what++) {
            h = 31 * h + x.info(what);
        }
        int rooms = x.info(6);
        for (int room = 0; room < rooms; room++) {
            for (int what = 0; what <= 6; what++) {
                h = 31 * h + x.room(room, what);
            }
            for (int other = room + 1; other <= rooms; other++) {
                h = 31 * h + (x.isOpen(room, other) ? 1 : 0);
            }
        }
        for (int sensor = 0; sensor < x.info(12); sensor++) {
            for (int what = 0; what <= 8; what++) {
                h = 31 * h + x.sensor(sensor, what);
            }
        }
        h = 31 * h + x.applying();
        for (int k = 0; k < x.info(14); k++) {
            for (int what = 0; what <= 3; what++) {
                h = 31 * h + x.event(k, what);
            }
        }
        for (int what = 0; what <= 5; what++) {
            h = 31 * h + x.told(what);
        }
        return 31 * h + records;
    }
}
