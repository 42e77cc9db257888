/** Promises 1 to 10: a new object, the house, the fire's settings and what is told of them. */
public final class HouseTest {
    private static final Check check = new Check("HouseTest");

    public static void main(String[] args) {
        newObject();
        begin();
        doors();
        addFuel();
        setTarget();
        set();
        setSmoke();
        info();
        room();
        check.end();
    }

    private static void newObject() { // promise 1
        SmokeGuard x = new SmokeGuard();
        int[] first = {0, 2, 3, 0, 8, 0, 2, 0, 0, 0, 8, 0, 0, 0, 0};
        for (int what = 0; what < first.length; what++) {
            check.due("new: info(" + what + ")", x.info(what), first[what]);
        }
        for (int room = 0; room < 2; room++) {
            for (int what = 0; what <= 6; what++) {
                check.due("new: room(" + room + ", " + what + ")", x.room(room, what), 0);
            }
        }
        for (int one = 0; one <= 2; one++) {
            for (int other = 0; other <= 2; other++) {
                check.due("new: isOpen(" + one + ", " + other + ")", x.isOpen(one, other), false);
            }
        }
        for (int what = 0; what <= 5; what++) {
            check.due("new: told(" + what + ")", x.told(what), 0);
        }
        check.due("new: applying()", x.applying(), SmokeGuard.NONE);
        check.due("new: event(0, 0)", x.event(0, 0), SmokeGuard.NONE);
        check.state("new: undo()", x::undo);
        check.due("NONE", SmokeGuard.NONE, -1);
    }

    private static SmokeGuard used() {
        SmokeGuard x = new SmokeGuard();
        x.setDoor(0, 2, true);
        x.setDoor(1, 0, true);
        x.addFuel(100);
        x.addSensor(0, 0, 1, 0, 3);
        x.addSensor(0, 2, 1, 0, 3);
        x.addRule(3, 0, 9, 2);
        x.set(1, 5);
        x.set(2, 9);
        x.mute(1, 50);
        x.setFault(0, 2);
        x.addEvent(500, 4, 0, 0);
        x.addEvent(2, 4, 0, 0);
        x.addEvent(3, 2, 7, 0);
        x.pass(5);
        return x;
    }

    private static void begin() { // promise 2
        SmokeGuard x = used();
        check.due("used: told(0)", x.told(0), 1);
        check.due("used: told(2)", x.told(2), 2);
        check.due("begin(3) after much", x.begin(3), 2);
        check.due("begin again", x.begin(2), 3);
        SmokeGuard fresh = new SmokeGuard();
        for (int what = 0; what <= 14; what++) {
            check.due("begun: info(" + what + ")", x.info(what), fresh.info(what));
        }
        for (int what = 0; what <= 5; what++) {
            check.due("begun: told(" + what + ")", x.told(what), 0);
        }
        for (int room = 0; room < 2; room++) {
            for (int what = 0; what <= 6; what++) {
                check.due("begun: room(" + room + ", " + what + ")", x.room(room, what), 0);
            }
        }
        check.due("begun: isOpen(0, 1)", x.isOpen(0, 1), false);
        check.due("begun: isOpen(0, 2)", x.isOpen(0, 2), false);
        check.due("begun: applying()", x.applying(), -1);
        check.due("begun: event(0, 0)", x.event(0, 0), -1);
        check.index("begun: sensor(0, 0)", () -> x.sensor(0, 0));
        check.due("begun: a new sensor is number 0", x.addSensor(1, 0, 5, 0, 1), 0);
        check.due("begun: a new sensor has count 0", x.sensor(0, 6), 0);
        check.due("begun: a new sensor has no fault", x.sensor(0, 5), 0);
        check.due("begin(1)", x.begin(1), 2);
        check.due("begin(4)", x.begin(4), 1);
        check.due("info(6)", x.info(6), 4);
        check.argument("begin(0)", () -> x.begin(0));
        check.argument("begin(5)", () -> x.begin(5));
        check.argument("begin(-1)", () -> x.begin(-1));
        check.argument("begin(MAX)", () -> x.begin(Integer.MAX_VALUE));
        check.due("info(6) after wrong begins", x.info(6), 4);
    }

    private static void doors() { // promises 3 and 4
        SmokeGuard x = new SmokeGuard();
        x.begin(3);
        check.due("setDoor(0, 1, true)", x.setDoor(0, 1, true), false);
        check.due("setDoor(1, 0, true)", x.setDoor(1, 0, true), true);
        check.due("isOpen(1, 0)", x.isOpen(1, 0), true);
        check.due("isOpen(0, 1)", x.isOpen(0, 1), true);
        check.due("isOpen(0, 2)", x.isOpen(0, 2), false);
        check.due("setDoor(3, 2, true)", x.setDoor(3, 2, true), false);
        check.due("isOpen(2, 3)", x.isOpen(2, 3), true);
        check.due("isOpen(1, 3)", x.isOpen(1, 3), false);
        check.due("isOpen(3, 3)", x.isOpen(3, 3), false);
        check.due("isOpen(1, 1)", x.isOpen(1, 1), false);
        check.due("setDoor(1, 0, false)", x.setDoor(1, 0, false), true);
        check.due("setDoor(0, 1, false)", x.setDoor(0, 1, false), false);
        check.due("isOpen(0, 1) then", x.isOpen(0, 1), false);
        check.due("isOpen(2, 3) still", x.isOpen(2, 3), true);
        check.index("setDoor(4, 0)", () -> x.setDoor(4, 0, true) ? 1 : 0);
        check.index("setDoor(0, 4)", () -> x.setDoor(0, 4, true) ? 1 : 0);
        check.index("setDoor(-1, 0)", () -> x.setDoor(-1, 0, true) ? 1 : 0);
        check.index("setDoor(0, -1)", () -> x.setDoor(0, -1, true) ? 1 : 0);
        check.index("setDoor(4, 4): the index first", () -> x.setDoor(4, 4, true) ? 1 : 0);
        check.argument("setDoor(3, 3)", () -> x.setDoor(3, 3, true) ? 1 : 0);
        check.argument("setDoor(0, 0)", () -> x.setDoor(0, 0, false) ? 1 : 0);
        check.index("isOpen(4, 0)", () -> x.isOpen(4, 0) ? 1 : 0);
        check.index("isOpen(0, 4)", () -> x.isOpen(0, 4) ? 1 : 0);
        check.index("isOpen(-1, -1)", () -> x.isOpen(-1, -1) ? 1 : 0);
        everyDoorIsItsOwn();
    }

    private static void everyDoorIsItsOwn() {
        for (int a = 0; a < 4; a++) {
            for (int b = a + 1; b <= 4; b++) {
                SmokeGuard x = new SmokeGuard();
                x.begin(4);
                x.setDoor(b, a, true);
                for (int one = 0; one <= 4; one++) {
                    for (int other = 0; other <= 4; other++) {
                        boolean want = one == a && other == b || one == b && other == a;
                        check.due("isOpen(" + one + ", " + other + ") with " + a + "-" + b + " open",
                                x.isOpen(one, other), want);
                    }
                }
            }
        }
    }

    private static void addFuel() { // promise 5
        SmokeGuard x = new SmokeGuard();
        check.due("addFuel(1)", x.addFuel(1), 1);
        check.due("addFuel(198)", x.addFuel(198), 199);
        check.due("addFuel(1) to 200", x.addFuel(1), 200);
        check.due("addFuel(200) beyond", x.addFuel(200), 200);
        check.due("info(8)", x.info(8), 200);
        check.argument("addFuel(0)", () -> x.addFuel(0));
        check.argument("addFuel(-1)", () -> x.addFuel(-1));
        check.argument("addFuel(201)", () -> x.addFuel(201));
        SmokeGuard y = new SmokeGuard();
        check.due("addFuel(200)", y.addFuel(200), 200);
    }

    private static void setTarget() { // promise 6
        SmokeGuard x = new SmokeGuard();
        check.due("setTarget(0)", x.setTarget(0), 8);
        check.due("setTarget(8)", x.setTarget(8), 0);
        check.due("setTarget(3)", x.setTarget(3), 8);
        check.due("info(10)", x.info(10), 3);
        check.due("info(4) stays", x.info(4), 8);
        check.argument("setTarget(9)", () -> x.setTarget(9));
        check.argument("setTarget(-1)", () -> x.setTarget(-1));
        check.due("info(10) after wrong ones", x.info(10), 3);
    }

    private static void set() { // promise 7
        int[] least = {0, 2, 0, 0, 0, 0};
        int[] most = {60, 9, 30, 1, 8, 999};
        int[] first = {0, 2, 3, 0, 8, 0};
        for (int k = 0; k <= 5; k++) {
            SmokeGuard x = new SmokeGuard();
            int what = k;
            check.due("set(" + k + ", most)", x.set(k, most[k]), first[k]);
            check.due("info(" + k + ")", x.info(k), most[k]);
            check.due("set(" + k + ", least)", x.set(k, least[k]), most[k]);
            check.due("info(" + k + ")", x.info(k), least[k]);
            check.argument("set(" + k + ", most + 1)", () -> x.set(what, most[what] + 1));
            check.argument("set(" + k + ", least - 1)", () -> x.set(what, least[what] - 1));
            for (int other = 0; other <= 5; other++) {
                check.due("info(" + other + ") after set(" + k + ")", x.info(other),
                        other == k ? least[k] : first[other]);
            }
        }
        SmokeGuard x = new SmokeGuard();
        check.argument("set(-1, 0)", () -> x.set(-1, 0));
        check.argument("set(6, 0)", () -> x.set(6, 0));
        check.argument("set(MIN, 2)", () -> x.set(Integer.MIN_VALUE, 2));
        x.set(3, 1);
        check.due("set(4, 5) though jammed", x.set(4, 5), 8);
        check.due("info(4)", x.info(4), 5);
        check.due("info(10) stays", x.info(10), 8);
        x.set(2, 0);
        check.due("info(2)", x.info(2), 0);
    }

    private static void setSmoke() { // promise 8
        SmokeGuard x = new SmokeGuard();
        check.due("setSmoke(0, 99999)", x.setSmoke(0, 99999), 0);
        check.due("setSmoke(1, 7)", x.setSmoke(1, 7), 0);
        check.due("setSmoke(0, 0)", x.setSmoke(0, 0), 99999);
        check.due("setSmoke(1, 8)", x.setSmoke(1, 8), 7);
        check.due("room(0, 0)", x.room(0, 0), 0);
        check.due("room(1, 0)", x.room(1, 0), 8);
        check.index("setSmoke(2, 0)", () -> x.setSmoke(2, 0));
        check.index("setSmoke(-1, 0)", () -> x.setSmoke(-1, 0));
        check.index("setSmoke(2, -1): the index first", () -> x.setSmoke(2, -1));
        check.argument("setSmoke(0, 100000)", () -> x.setSmoke(0, 100000));
        check.argument("setSmoke(0, -1)", () -> x.setSmoke(0, -1));
    }

    private static void info() { // promise 9
        SmokeGuard x = new SmokeGuard();
        int[] fuels = {0, 1, 24, 25, 49, 50, 199, 200};
        int[] strengths = {0, 1, 1, 2, 2, 3, 8, 9};
        for (int i = 0; i < fuels.length; i++) {
            x.begin(4);
            if (fuels[i] > 0) {
                x.addFuel(fuels[i]);
            }
            check.due("info(8) with fuel " + fuels[i], x.info(8), fuels[i]);
            check.due("info(9) with fuel " + fuels[i], x.info(9), strengths[i]);
        }
        x.set(5, 101);
        x.set(4, 7);
        check.due("info(11): 101 * 7 / 8", x.info(11), 88);
        x.set(0, 60);
        check.due("info(11) with wind 60", x.info(11), 28);
        x.set(4, 4);
        check.due("info(11): 50 - 60 is no draft", x.info(11), 0);
        x.set(5, 999);
        x.set(4, 8);
        x.set(0, 0);
        check.due("info(11) at most", x.info(11), 999);
        check.argument("info(15)", () -> x.info(15));
        check.argument("info(-1)", () -> x.info(-1));
        x.addSensor(3, 1, 5, 0, 1);
        x.addRule(1, 0, 5, 5);
        x.addRule(1, 0, 5, 5);
        x.addEvent(9, 4, 0, 0);
        x.addEvent(9, 4, 0, 0);
        x.addEvent(1, 4, 0, 0);
        check.due("info(12)", x.info(12), 1);
        check.due("info(13)", x.info(13), 2);
        check.due("info(14)", x.info(14), 3);
        x.pass(4);
        check.due("info(7)", x.info(7), 4);
        check.due("info(14) after one came", x.info(14), 2);
    }

    private static void room() { // promise 10
        SmokeGuard x = new SmokeGuard();
        x.addSensor(0, 0, 10, 0, 3);
        x.addSensor(1, 0, 10, 0, 3);
        x.addSensor(0, 2, 10, 0, 2);
        x.setFault(0, 2);
        check.due("room(0, 5) with one stuck", x.room(0, 5), 1);
        check.due("room(0, 6) with one stuck", x.room(0, 6), 3);
        check.due("room(0, 4): never on one sensor alone", x.room(0, 4), 0);
        x.setFault(2, 2);
        check.due("room(0, 5) with two stuck", x.room(0, 5), 5);
        check.due("room(0, 6) with two stuck", x.room(0, 6), 5);
        check.due("room(0, 4) with two stuck", x.room(0, 4), 1);
        check.due("room(1, 4): other room's sensors are not its own", x.room(1, 4), 0);
        check.due("room(1, 5)", x.room(1, 5), 0);
        x.set(1, 6);
        check.due("room(0, 4): 5 is below the quorum 6", x.room(0, 4), 0);
        x.set(1, 5);
        check.due("room(0, 4): 5 is the quorum", x.room(0, 4), 1);
        check.due("room(0, 3): no minute has passed", x.room(0, 3), 0);
        x.pass(1);
        check.due("room(0, 1)", x.room(0, 1), 4);
        check.due("room(0, 3)", x.room(0, 3), 1);
        x.mute(0, 9);
        check.due("room(0, 2)", x.room(0, 2), 9);
        check.due("room(0, 3) muted", x.room(0, 3), 0);
        check.due("room(0, 1) muted", x.room(0, 1), 4);
        check.due("room(1, 2)", x.room(1, 2), 0);
        check.index("room(2, 0)", () -> x.room(2, 0));
        check.index("room(-1, 0)", () -> x.room(-1, 0));
        check.index("room(2, 7): the index first", () -> x.room(2, 7));
        check.argument("room(0, 7)", () -> x.room(0, 7));
        check.argument("room(0, -1)", () -> x.room(0, -1));
    }
}
