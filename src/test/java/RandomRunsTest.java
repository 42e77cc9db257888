import java.util.ArrayList;
import java.util.Arrays;
import java.util.List;
import java.util.Random;

/** All promises: runs of 512 calls, from written seeds, each answer held against the Model's. */
public final class RandomRunsTest {
    private static final int RUNS = 600;
    private static final int CALLS = 512;

    private static final String[] NAMES = {
        "begin", "setDoor", "isOpen", "addFuel", "setTarget", "set", "setSmoke", "info", "room", "addSensor",
        "setFault", "sensor", "addRule", "removeRule", "applying", "addEvent", "event", "mute", "pass", "told",
        "alarmIn", "smokeAfter", "peak", "bestOpening", "neededSensors", "burnsFor", "undo", "checksum"};
    private static final int[] OFTEN = {
        1, 16, 4, 16, 6, 14, 14, 4, 8, 14,
        8, 6, 14, 4, 8, 24, 6, 8, 60, 10,
        14, 8, 8, 4, 14, 10, 10, 10};
    private static final int[] ODD = {
        Integer.MIN_VALUE, Integer.MIN_VALUE + 1, -100000, -1000, -2, -1, 0, 1, 2, 3, 4, 5, 6, 7, 8, 9, 10, 15,
        19, 20, 21, 30, 31, 60, 61, 99, 100, 200, 201, 998, 999, 1000, 9999, 10000, 99999, 100000,
        Integer.MAX_VALUE - 1000, Integer.MAX_VALUE};

    private static Random random;
    private static Model model;

    public static void main(String[] args) {
        Check check = new Check("RandomRunsTest");
        for (int seed = 1; seed <= RUNS; seed++) {
            run(check, seed);
        }
        check.end();
    }

    private static void run(Check check, int seed) {
        random = new Random(seed);
        model = new Model();
        SmokeGuard real = new SmokeGuard();
        List<String> told = new ArrayList<>();
        for (int i = 0; i < CALLS / 2; i++) {
            String name = pickName();
            int[] x = pickNumbers(name);
            String call = name + Arrays.toString(x);
            told.add(call);
            long want = model.call(name, x);
            long got = answer(real, name, x);
            check.due("seed " + seed + " call " + i + " " + call, got, want);
            check.due("seed " + seed + " checksum after call " + i + " " + call, real.checksum(),
                    model.call("checksum"));
            if (got != want) {
                System.out.println(told);
                return;
            }
        }
    }

    private static String pickName() {
        int sum = Arrays.stream(OFTEN).sum();
        int at = random.nextInt(sum);
        for (int i = 0; i < NAMES.length; i++) {
            at -= OFTEN[i];
            if (at < 0) {
                return NAMES[i];
            }
        }
        throw new AssertionError();
    }

    private static int some(int least, int most) {
        if (random.nextInt(60) == 0) {
            return ODD[random.nextInt(ODD.length)];
        }
        switch (random.nextInt(12)) {
            case 0:
                return least;
            case 1:
                return most;
            default:
                return least + random.nextInt(most - least + 1);
        }
    }

    private static int someRoom() {
        return some(0, model.now.rooms - 1);
    }

    private static int somePlace() {
        return some(0, model.now.rooms);
    }

    private static int someSensor() {
        return some(0, Math.max(0, model.now.sensors.size() - 1));
    }

    private static int someThreshold() {
        return random.nextInt(5) == 0 ? some(1, 9999) : some(1, 300);
    }

    private static int someMinutes(int most) {
        return random.nextInt(3) == 0 ? some(1, most) : some(1, Math.min(most, 12));
    }

    private static int[] pickNumbers(String name) {
        switch (name) {
            case "begin":
                return new int[] {some(1, 4)};
            case "setDoor":
                return new int[] {somePlace(), somePlace(), random.nextInt(3) == 0 ? 0 : 1};
            case "isOpen":
                return new int[] {somePlace(), somePlace()};
            case "addFuel":
                return new int[] {some(1, 200)};
            case "setTarget":
                return new int[] {some(0, 8)};
            case "set":
                return someSetting();
            case "setSmoke":
                return new int[] {someRoom(), random.nextInt(3) == 0 ? some(0, 99999) : some(0, 500)};
            case "info":
                return new int[] {some(0, 14)};
            case "room":
                return new int[] {someRoom(), some(0, 6)};
            case "addSensor":
                return new int[] {someRoom(), some(0, 2), someThreshold(), some(0, 3), some(1, 3)};
            case "setFault":
                return new int[] {someSensor(), some(0, 2)};
            case "sensor":
                return new int[] {someSensor(), some(0, 8)};
            case "addRule":
                return new int[] {some(0, 3), someRoom(), random.nextBoolean() ? some(0, 9999) : some(0, 200),
                    some(0, 8)};
            case "removeRule":
                return new int[] {some(0, Math.max(0, model.now.rules.size() - 1))};
            case "addEvent":
                return someEvent();
            case "event":
                return new int[] {some(-1, 20), some(0, 3)};
            case "mute":
                return new int[] {someRoom(), random.nextBoolean() ? some(0, 60) : some(0, 4)};
            case "pass":
                return new int[] {someMinutes(60)};
            case "told":
                return new int[] {some(0, 5)};
            case "peak":
                return new int[] {someRoom(), some(0, 8), someMinutes(200)};
            case "alarmIn":
            case "smokeAfter":
            case "neededSensors":
                return new int[] {someRoom(), someMinutes(200)};
            case "bestOpening":
            case "burnsFor":
                return new int[] {someMinutes(200)};
            default:
                return new int[0];
        }
    }

    private static int[] someSetting() {
        int what = some(0, 5);
        int[] most = {60, 9, 30, 1, 8, 999};
        int value = what == 1 ? some(2, 6) : what >= 0 && what <= 5 ? some(0, most[what]) : some(0, 10);
        return new int[] {what, value};
    }

    private static int[] someEvent() {
        int t = model.now.t;
        int minute = random.nextInt(6) == 0 ? some(t + 1, t + 999) : some(t + 1, t + 12);
        int kind = some(0, 4);
        switch (kind) {
            case 0:
                return new int[] {minute, kind, someRoom(), somePlace()};
            case 1:
                return new int[] {minute, kind, some(1, 200), some(0, 0)};
            case 2:
                return new int[] {minute, kind, some(0, 60), some(0, 0)};
            case 3:
                return new int[] {minute, kind, someSensor(), some(0, 2)};
            default:
                return new int[] {minute, kind, some(0, 0), some(0, 0)};
        }
    }

    private static long answer(SmokeGuard real, String name, int[] x) {
        try {
            return ask(real, name, x);
        } catch (RuntimeException e) {
            if (e.getClass() == IndexOutOfBoundsException.class) {
                return Model.INDEX;
            }
            if (e.getClass() == IllegalArgumentException.class) {
                return Model.ARGUMENT;
            }
            if (e.getClass() == IllegalStateException.class) {
                return Model.STATE;
            }
            throw e;
        }
    }

    private static long ask(SmokeGuard real, String name, int[] x) {
        switch (name) {
            case "begin":
                return real.begin(x[0]);
            case "setDoor":
                return real.setDoor(x[0], x[1], x[2] != 0) ? 1 : 0;
            case "isOpen":
                return real.isOpen(x[0], x[1]) ? 1 : 0;
            case "addFuel":
                return real.addFuel(x[0]);
            case "setTarget":
                return real.setTarget(x[0]);
            case "set":
                return real.set(x[0], x[1]);
            case "setSmoke":
                return real.setSmoke(x[0], x[1]);
            case "info":
                return real.info(x[0]);
            case "room":
                return real.room(x[0], x[1]);
            case "addSensor":
                return real.addSensor(x[0], x[1], x[2], x[3], x[4]);
            case "setFault":
                return real.setFault(x[0], x[1]);
            case "sensor":
                return real.sensor(x[0], x[1]);
            case "addRule":
                return real.addRule(x[0], x[1], x[2], x[3]);
            case "removeRule":
                return real.removeRule(x[0]);
            case "applying":
                return real.applying();
            case "addEvent":
                return real.addEvent(x[0], x[1], x[2], x[3]);
            case "event":
                return real.event(x[0], x[1]);
            case "mute":
                return real.mute(x[0], x[1]);
            case "pass":
                return real.pass(x[0]);
            case "told":
                return real.told(x[0]);
            case "alarmIn":
                return real.alarmIn(x[0], x[1]);
            case "smokeAfter":
                return real.smokeAfter(x[0], x[1]);
            case "peak":
                return real.peak(x[0], x[1], x[2]);
            case "bestOpening":
                return real.bestOpening(x[0]);
            case "neededSensors":
                return real.neededSensors(x[0], x[1]);
            case "burnsFor":
                return real.burnsFor(x[0]);
            case "undo":
                return real.undo();
            case "checksum":
                return real.checksum();
            default:
                throw new AssertionError(name);
        }
    }
}
