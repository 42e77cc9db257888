/** Objects in four states, made anew for each use: an empty one, the smallest, one with some of all, a full one. */
enum House {
    /** Nothing has been called: no sensors, rules, events and records. */
    NEW(0) {
        @Override
        SmokeGuard make() {
            return new SmokeGuard();
        }
    },
    /** One room, and one record. */
    SINGLE(1) {
        @Override
        SmokeGuard make() {
            SmokeGuard x = new SmokeGuard();
            x.begin(1);
            return x;
        }
    },
    /** Three rooms, some of everything, and three records. */
    BUSY(3) {
        @Override
        SmokeGuard make() {
            SmokeGuard x = new SmokeGuard();
            x.begin(3);
            x.setDoor(0, 1, true);
            x.setDoor(1, 3, true);
            x.addSensor(0, 0, 60, 0, 2);
            x.addSensor(0, 2, 20, 1, 1);
            x.addSensor(1, 1, 90, 0, 3);
            x.addRule(2, 0, 0, 3);
            x.addRule(0, 1, 100, 6);
            x.addEvent(4, 0, 0, 2);
            x.addEvent(8, 3, 2, 2);
            x.addEvent(9, 1, 40, 0);
            x.addFuel(120);
            x.pass(5);
            x.mute(1, 7);
            x.setTarget(4);
            x.undo();
            return x;
        }
    },
    /** Four rooms, all doors open, 8 sensors, 8 rules, 20 events, 4 records, and every number at its most. */
    FULL(4) {
        @Override
        SmokeGuard make() {
            SmokeGuard x = new SmokeGuard();
            x.begin(4);
            for (int i = 0; i < 8; i++) {
                x.addSensor(i < 4 ? 0 : i % 4, i % 3, i % 2 == 0 ? 9999 : 1, i == 7 ? 9 : 0, 3);
                x.addRule(i % 4, i % 4, i == 3 ? 0 : 9999 - i, i);
            }
            x.setFault(0, 2);
            x.setFault(6, 1);
            for (int i = 0; i < 20; i++) {
                x.addEvent(i < 4 ? 2 : 40 * i, i % 5, i % 5 < 4 ? 1 : 0, i % 5 == 0 || i % 5 == 3 ? 2 : 0);
            }
            x.pass(3);
            for (int i = 0; i < 4; i++) {
                x.addEvent(i < 2 ? 4 : 1002, 4, 0, 0);
            }
            fillToTheMost(x);
            return x;
        }
    };

    static final House[] ALL = values();
    static final House[] WITH_SPACE = {NEW, SINGLE, BUSY};
    static final House[] WITH_SENSORS = {BUSY, FULL};

    /** How many records it has. */
    final int records;

    House(int records) {
        this.records = records;
    }

    abstract SmokeGuard make();

    private static void fillToTheMost(SmokeGuard x) {
        for (int a = 0; a < 4; a++) {
            for (int b = a + 1; b <= 4; b++) {
                x.setDoor(a, b, true);
            }
        }
        x.mute(3, 60);
        x.set(0, 60);
        x.set(1, 9);
        x.set(2, 30);
        x.set(5, 999);
        x.addFuel(200);
        for (int room = 0; room < 4; room++) {
            x.setSmoke(room, 99999);
        }
    }
}
