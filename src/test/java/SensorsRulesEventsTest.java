/** Promises 11 to 19: sensors, rules, events and muting. */
public final class SensorsRulesEventsTest {
    private static final Check check = new Check("SensorsRulesEventsTest");

    public static void main(String[] args) {
        addSensor();
        setFault();
        sensor();
        excitement();
        votes();
        addRule();
        removeRule();
        removeOneOfEight();
        applying();
        addEvent();
        event();
        mute();
        check.end();
    }

    private static void addSensor() { // promise 11
        SmokeGuard x = new SmokeGuard();
        check.due("addSensor, all least", x.addSensor(0, 0, 1, 0, 1), 0);
        check.due("addSensor, all most", x.addSensor(1, 2, 9999, 9, 3), 1);
        int[] least = {0, 0, 1, 0, 1, 0, 0, 0, 0};
        int[] most = {1, 2, 9999, 9, 3, 0, 0, 0, 0};
        for (int what = 0; what < 9; what++) {
            check.due("sensor(0, " + what + ")", x.sensor(0, what), least[what]);
            check.due("sensor(1, " + what + ")", x.sensor(1, what), most[what]);
        }
        check.index("no room 2", () -> x.addSensor(2, 0, 1, 0, 1));
        check.index("no room -1", () -> x.addSensor(-1, 0, 1, 0, 1));
        check.index("the index first", () -> x.addSensor(2, 9, 0, 99, 0));
        check.argument("kind 3", () -> x.addSensor(0, 3, 1, 0, 1));
        check.argument("kind -1", () -> x.addSensor(0, -1, 1, 0, 1));
        check.argument("threshold 0", () -> x.addSensor(0, 0, 0, 0, 1));
        check.argument("threshold 10000", () -> x.addSensor(0, 0, 10000, 0, 1));
        check.argument("delay -1", () -> x.addSensor(0, 0, 1, -1, 1));
        check.argument("delay 10", () -> x.addSensor(0, 0, 1, 10, 1));
        check.argument("weight 0", () -> x.addSensor(0, 0, 1, 0, 0));
        check.argument("weight 4", () -> x.addSensor(0, 0, 1, 0, 4));
        for (int i = 2; i < 8; i++) {
            check.due("addSensor number " + i, x.addSensor(0, 1, 1, 0, 1), i);
        }
        check.state("a ninth", () -> x.addSensor(0, 0, 1, 0, 1));
        check.argument("a wrong ninth", () -> x.addSensor(0, 3, 1, 0, 1));
        check.index("a ninth in no room", () -> x.addSensor(2, 0, 1, 0, 1));
        check.due("info(12)", x.info(12), 8);
    }

    private static void setFault() { // promise 12
        SmokeGuard x = new SmokeGuard();
        check.index("setFault(0, 0) without sensors", () -> x.setFault(0, 0));
        x.addSensor(0, 0, 1, 0, 1);
        x.addSensor(0, 0, 1, 0, 1);
        check.due("setFault(1, 2)", x.setFault(1, 2), 0);
        check.due("setFault(1, 1)", x.setFault(1, 1), 2);
        check.due("setFault(1, 0)", x.setFault(1, 0), 1);
        check.due("setFault(0, 1)", x.setFault(0, 1), 0);
        check.due("sensor(0, 5)", x.sensor(0, 5), 1);
        check.due("sensor(1, 5)", x.sensor(1, 5), 0);
        check.index("setFault(2, 0)", () -> x.setFault(2, 0));
        check.index("setFault(-1, 0)", () -> x.setFault(-1, 0));
        check.index("the index first", () -> x.setFault(2, 3));
        check.argument("setFault(0, 3)", () -> x.setFault(0, 3));
        check.argument("setFault(0, -1)", () -> x.setFault(0, -1));
    }

    private static void sensor() { // promise 13
        SmokeGuard x = new SmokeGuard();
        check.index("sensor(0, 0) without sensors", () -> x.sensor(0, 0));
        x.addSensor(1, 0, 100, 3, 2);
        check.index("sensor(1, 0)", () -> x.sensor(1, 0));
        check.index("sensor(-1, 0)", () -> x.sensor(-1, 0));
        check.index("the index first", () -> x.sensor(1, 9));
        check.argument("sensor(0, 9)", () -> x.sensor(0, 9));
        check.argument("sensor(0, -1)", () -> x.sensor(0, -1));
    }

    private static void excitement() { // promise 13: what 7 is as things are now
        SmokeGuard x = new SmokeGuard();
        x.addSensor(1, 0, 100, 0, 1);
        x.addSensor(0, 1, 50, 0, 1);
        x.addSensor(0, 2, 50, 0, 1);
        x.setSmoke(0, 500);
        x.setSmoke(1, 99);
        check.due("smoke 99 of 100", x.sensor(0, 7), 0);
        x.setSmoke(1, 100);
        check.due("smoke 100 of 100", x.sensor(0, 7), 1);
        check.due("no draft, but no fire", x.sensor(1, 7), 0);
        x.addFuel(1);
        check.due("no draft with a fire", x.sensor(1, 7), 1);
        x.set(5, 49);
        check.due("draft 49 of 50", x.sensor(1, 7), 1);
        check.due("warmth 49 of 50", x.sensor(2, 7), 0);
        x.set(5, 50);
        check.due("draft 50 of 50", x.sensor(1, 7), 0);
        check.due("warmth 50 of 50", x.sensor(2, 7), 1);
        x.set(0, 1);
        check.due("draft 49 of 50 by the wind", x.sensor(1, 7), 1);
        check.due("warmth 50 whatever the wind", x.sensor(2, 7), 1);
        check.due("the count stays", x.sensor(0, 6), 0);
        x.pass(1);
        check.due("the count of a minute", x.sensor(0, 6), 1);
        x.setSmoke(1, 0);
        x.pass(1);
        check.due("the count becomes 0", x.sensor(0, 6), 0);
        x.setSmoke(1, 9999);
        x.pass(60);
        check.due("the count after 60", x.sensor(0, 6), 60);
        x.pass(39);
        check.due("the count after 99", x.sensor(0, 6), 99);
        x.pass(2);
        check.due("the count up to 99", x.sensor(0, 6), 99);
    }

    private static void votes() { // promise 13: what 8
        SmokeGuard x = new SmokeGuard();
        x.addSensor(0, 0, 5, 2, 1);
        x.setSmoke(0, 5);
        x.pass(2);
        check.due("count 2 with delay 2", x.sensor(0, 8), 0);
        x.pass(1);
        check.due("count 3 with delay 2", x.sensor(0, 8), 1);
        x.setFault(0, 1);
        check.due("a dead one", x.sensor(0, 8), 0);
        check.due("a dead one counts on", x.sensor(0, 6), 3);
        x.pass(1);
        check.due("a dead one counts on, too", x.sensor(0, 6), 4);
        check.due("a dead one is excited", x.sensor(0, 7), 1);
        x.setFault(0, 0);
        check.due("a mended one", x.sensor(0, 8), 1);
        x.setSmoke(0, 0);
        check.due("it votes by its count", x.sensor(0, 8), 1);
        x.pass(1);
        check.due("then it does not", x.sensor(0, 8), 0);
        x.setFault(0, 2);
        check.due("a stuck one", x.sensor(0, 8), 1);
        check.due("a stuck one's excitement", x.sensor(0, 7), 0);
    }

    private static void addRule() { // promise 14
        SmokeGuard x = new SmokeGuard();
        check.index("no room 2", () -> x.addRule(0, 2, 0, 0));
        check.index("no room 2, whatever the kind", () -> x.addRule(3, 2, 0, 0));
        check.index("no room -1", () -> x.addRule(0, -1, 0, 0));
        check.index("the index first", () -> x.addRule(4, 2, -1, 9));
        check.argument("kind 4", () -> x.addRule(4, 0, 0, 0));
        check.argument("kind -1", () -> x.addRule(-1, 0, 0, 0));
        check.argument("limit -1", () -> x.addRule(0, 0, -1, 0));
        check.argument("limit 10000", () -> x.addRule(0, 0, 10000, 0));
        check.argument("opening -1", () -> x.addRule(0, 0, 0, -1));
        check.argument("opening 9", () -> x.addRule(0, 0, 0, 9));
        check.due("info(13)", x.info(13), 0);
        check.due("addRule, all least", x.addRule(0, 0, 0, 0), 0);
        check.due("addRule, all most", x.addRule(3, 1, 9999, 8), 1);
        for (int i = 2; i < 8; i++) {
            check.due("addRule number " + i, x.addRule(1, 0, 0, 0), i);
        }
        check.state("a ninth", () -> x.addRule(0, 0, 0, 0));
        check.argument("a wrong ninth", () -> x.addRule(0, 0, 0, 9));
        check.index("a ninth for no room", () -> x.addRule(0, 2, 0, 0));
    }

    private static void removeRule() { // promise 15
        SmokeGuard x = new SmokeGuard();
        check.index("removeRule(0) without rules", () -> x.removeRule(0));
        x.addRule(0, 1, 30, 1); // by the smoke of room 1
        x.addRule(0, 0, 20, 2); // by that of room 0
        x.addRule(3, 0, 0, 3); // without a fire
        check.index("removeRule(3)", () -> x.removeRule(3));
        check.index("removeRule(-1)", () -> x.removeRule(-1));
        check.due("removeRule(0)", x.removeRule(0), 2);
        check.due("applying() is the last one", x.applying(), 1);
        x.setSmoke(0, 20);
        check.due("the second one moved up", x.applying(), 0);
        x.pass(8);
        check.due("and has kept its opening", x.info(10), 2);
        check.due("removeRule(1)", x.removeRule(1), 1);
        x.setSmoke(0, 0);
        check.due("applying() none", x.applying(), -1);
        check.due("removeRule(0) last", x.removeRule(0), 0);
        check.index("removeRule(0) when empty", () -> x.removeRule(0));
    }

    private static void removeOneOfEight() { // promise 15: each one's kind, room, limit and opening move up
        SmokeGuard x = new SmokeGuard();
        int[][] rules = {
            {0, 0, 9999, 0}, {0, 1, 9998, 1}, {0, 0, 9997, 2}, {1, 0, 0, 3}, {3, 1, 5, 4}, {0, 1, 9995, 5},
            {2, 0, 0, 6}, {1, 1, 30, 7}};
        for (int[] r : rules) {
            x.addRule(r[0], r[1], r[2], r[3]);
        }
        check.due("removeRule(2) of eight", x.removeRule(2), 7);
        check.due("info(13)", x.info(13), 7);
        check.due("without a fire, what was the fifth", x.applying(), 3);
        x.addFuel(200);
        check.due("without a draft, what was the eighth", x.applying(), 6);
        x.setSmoke(0, 9998);
        check.due("room 0's smoke", x.applying(), 6);
        x.setSmoke(1, 9995);
        check.due("room 1's smoke, what was the sixth", x.applying(), 4);
        x.setSmoke(1, 9998);
        check.due("room 1's smoke, still the second", x.applying(), 1);
        x.setSmoke(1, 9995);
        x.setSmoke(0, 0);
        x.pass(1);
        check.due("the opening of what was the sixth", x.info(10), 5);
        check.due("removeRule(6), the last", x.removeRule(6), 6);
        x.setSmoke(1, 0);
        x.set(5, 0);
        check.due("and it does not apply any more", x.applying(), -1);
    }

    private static void applying() { // promise 16
        SmokeGuard x = new SmokeGuard();
        x.addFuel(100); // strength 5
        x.addRule(0, 1, 10, 0);
        x.addRule(1, 0, 10, 0);
        x.addRule(2, 1, 0, 0);
        x.addRule(3, 0, 5, 0);
        check.due("draft 0 is less than 10", x.applying(), 1);
        x.set(5, 10);
        check.due("draft 10 is not; strength 5 is at most 5", x.applying(), 3);
        x.addFuel(25);
        check.due("strength 6 is not at most 5", x.applying(), -1);
        x.setSmoke(0, 10);
        check.due("the smoke of room 0 does not count", x.applying(), -1);
        x.setSmoke(1, 9);
        check.due("smoke 9 of 10", x.applying(), -1);
        x.setSmoke(1, 10);
        check.due("smoke 10 of 10", x.applying(), 0);
        SmokeGuard y = new SmokeGuard();
        y.addRule(2, 1, 9999, 4);
        y.addSensor(1, 0, 1, 0, 1);
        y.addSensor(1, 0, 1, 0, 1);
        y.setSmoke(1, 1);
        check.due("no alarm yet", y.applying(), -1);
        y.pass(1);
        check.due("an alarm", y.applying(), 0);
        check.due("the rule gave its opening in the same minute", y.info(10), 4);
        check.due("the damper moved a step", y.info(4), 7);
        y.mute(1, 1);
        check.due("muted", y.applying(), -1);
    }

    private static void addEvent() { // promise 17
        SmokeGuard x = new SmokeGuard();
        x.addSensor(0, 0, 1, 0, 1);
        x.pass(10);
        check.argument("minute t", () -> x.addEvent(10, 4, 0, 0));
        check.argument("minute t + 1000", () -> x.addEvent(1010, 4, 0, 0));
        check.argument("minute -1", () -> x.addEvent(-1, 4, 0, 0));
        check.argument("minute MAX", () -> x.addEvent(Integer.MAX_VALUE, 4, 0, 0));
        check.argument("kind -1", () -> x.addEvent(11, -1, 0, 0));
        check.argument("kind 5", () -> x.addEvent(11, 5, 0, 0));
        int[][] wrong = {
            {0, 0, 0}, {0, 2, 0}, {0, -1, 0}, {0, 0, 3}, {0, 0, -1},
            {1, 0, 0}, {1, 201, 0}, {1, 1, 1}, {1, -1, 0}, {1, 5, -1},
            {2, -1, 0}, {2, 61, 0}, {2, 0, 1},
            {3, 1, 0}, {3, -1, 0}, {3, 0, 3}, {3, 0, -1},
            {4, 1, 0}, {4, 0, 1}, {4, -1, 0}, {4, 0, -1}};
        for (int[] e : wrong) {
            check.argument("event kind " + e[0] + ", " + e[1] + ", " + e[2],
                    () -> x.addEvent(11, e[0], e[1], e[2]));
        }
        check.due("info(14)", x.info(14), 0);
        int[][] right = {
            {0, 0, 1}, {0, 0, 2}, {0, 1, 2}, {0, 1, 0}, {1, 1, 0}, {1, 200, 0}, {2, 0, 0}, {2, 60, 0},
            {3, 0, 0}, {3, 0, 2}, {4, 0, 0}};
        int n = 0;
        for (int[] e : right) {
            n++;
            check.due("event kind " + e[0] + ", " + e[1] + ", " + e[2], x.addEvent(11, e[0], e[1], e[2]), n);
        }
        check.due("minute t + 999", x.addEvent(1009, 4, 0, 0), 12);
        for (int i = 13; i <= 20; i++) {
            check.due("event " + i, x.addEvent(500, 4, 0, 0), i);
        }
        check.state("a 21st", () -> x.addEvent(11, 4, 0, 0));
        check.argument("a wrong 21st", () -> x.addEvent(10, 4, 0, 0));
        x.pass(1);
        check.due("told(2)", x.told(2), 11);
        check.due("an event when some have come", x.addEvent(12, 4, 0, 0), 10);
    }

    private static void event() { // promise 18
        SmokeGuard x = new SmokeGuard();
        check.due("event(0, 0) when empty", x.event(0, 0), -1);
        check.due("event(-1, 3)", x.event(-1, 3), -1);
        check.due("event(MIN, 0)", x.event(Integer.MIN_VALUE, 0), -1);
        check.due("event(MAX, 0)", x.event(Integer.MAX_VALUE, 0), -1);
        check.argument("event(0, 4)", () -> x.event(0, 4));
        check.argument("event(-1, -1)", () -> x.event(-1, -1));
        x.addEvent(5, 0, 1, 2);
        x.addEvent(3, 1, 77, 0);
        x.addEvent(5, 2, 33, 0);
        x.addEvent(4, 4, 0, 0);
        x.addEvent(3, 2, 44, 0);
        x.addEvent(5, 0, 0, 1);
        int[][] order = {{3, 1, 77, 0}, {3, 2, 44, 0}, {4, 4, 0, 0}, {5, 0, 1, 2}, {5, 2, 33, 0}, {5, 0, 0, 1}};
        for (int k = 0; k < order.length; k++) {
            for (int what = 0; what < 4; what++) {
                check.due("event(" + k + ", " + what + ")", x.event(k, what), order[k][what]);
            }
        }
        check.due("event(6, 0)", x.event(6, 0), -1);
        x.pass(3);
        check.due("event(0, 0) when two have come", x.event(0, 0), 4);
        check.due("event(3, 2) when two have come", x.event(3, 2), 0);
        check.due("event(3, 3) when two have come", x.event(3, 3), 1);
        check.due("event(4, 0) when two have come", x.event(4, 0), -1);
    }

    private static void mute() { // promise 19
        SmokeGuard x = new SmokeGuard();
        check.due("mute(1, 60)", x.mute(1, 60), 0);
        x.pass(2);
        check.due("room(1, 2) after 2 minutes", x.room(1, 2), 58);
        check.due("room(0, 2)", x.room(0, 2), 0);
        check.due("mute(1, 0)", x.mute(1, 0), 58);
        check.due("mute(1, 1)", x.mute(1, 1), 0);
        x.pass(1);
        check.due("room(1, 2) down to 0", x.room(1, 2), 0);
        x.pass(1);
        check.due("room(1, 2) stays 0", x.room(1, 2), 0);
        check.index("mute(2, 0)", () -> x.mute(2, 0));
        check.index("mute(-1, 0)", () -> x.mute(-1, 0));
        check.index("the index first", () -> x.mute(2, 61));
        check.argument("mute(0, 61)", () -> x.mute(0, 61));
        check.argument("mute(0, -1)", () -> x.mute(0, -1));
    }
}
