import java.util.EnumMap;
import java.util.HashSet;
import java.util.List;
import java.util.Map;
import java.util.Set;

/** Holds the class against the document, sentence by sentence: each sentence has a test of its own. */
abstract class Sentences {
    /** A call on an object. */
    interface Call {
        long on(SmokeGuard x);
    }

    /** A call with a number that is varied. */
    interface CallWith {
        long on(SmokeGuard x, int value);
    }

    /** A call about a door. */
    interface Door {
        boolean on(SmokeGuard x, int one, int other);
    }

    static final Class<?> INDEX = IndexOutOfBoundsException.class;
    static final Class<?> ARGUMENT = IllegalArgumentException.class;
    static final Class<?> STATE = IllegalStateException.class;

    /** What set() and info() know by these numbers. */
    static final int WIND = 0;
    static final int QUORUM = 1;
    static final int HOLD = 2;
    static final int JAMMED = 3;
    static final int OPENING = 4;
    static final int WARMTH = 5;

    private static final int LEAST_INT = Integer.MIN_VALUE;
    private static final int MOST_INT = Integer.MAX_VALUE;

    private final Check check;
    private final Map<Integer, List<String>> document;
    private final Set<String> tested = new HashSet<>();
    private final Map<House, List<Long>> untouched = new EnumMap<>(House.class);

    Sentences(Check check, Document document) {
        this.check = check;
        this.document = document.sentences();
        for (House house : House.ALL) {
            untouched.put(house, Answers.of(house.make()));
        }
    }

    /** Runs the tests of all sentences of its part. */
    abstract void all();

    /** The part's sentences that have been tested, each behind its promise's number. */
    Set<String> tested() {
        return tested;
    }

    static String key(int promise, String sentence) {
        return promise + ": " + sentence;
    }

    /** Tests a sentence, which must stand in the document at that promise (0: in the description). */
    void said(int promise, String sentence, Runnable test) {
        String key = key(promise, sentence);
        check.about(key);
        check.due("this stands in the document", document.getOrDefault(promise, List.of()).contains(sentence), true);
        int before = check.asked();
        try {
            test.run();
        } catch (RuntimeException e) {
            check.fail("a call threw " + e);
        }
        check.due("something is asked", check.asked() > before, true);
        check.about("");
        tested.add(key);
    }

    /** Tests a sentence of the description. */
    void said(String sentence, Runnable test) {
        said(Document.DESCRIPTION, sentence, test);
    }

    void due(String call, long got, long want) {
        check.due(call, got, want);
    }

    void due(String call, boolean got, boolean want) {
        check.due(call, got, want);
    }

    /** A call on one object throws exactly this. */
    void throwing(Class<?> want, String call, Check.Call done) {
        check.throwing(call, want, done);
    }

    /** The call ends normally on each of the houses. */
    void taken(String call, House[] houses, Call done) {
        for (House house : houses) {
            boolean isTaken = true;
            try {
                done.on(house.make());
            } catch (RuntimeException e) {
                isTaken = false;
            }
            due(call + " is taken by " + house, isTaken, true);
        }
    }

    /** The call ends normally with each of the values. */
    void taken(String call, House[] houses, CallWith done, int... values) {
        for (int value : values) {
            taken(call + " with " + value, houses, x -> done.on(x, value));
        }
    }

    /** The first and the last room are taken on every object. */
    void takesRooms(String call, House[] houses, CallWith done) {
        taken(call + " with room 0", houses, x -> done.on(x, 0));
        taken(call + " with room R - 1", houses, x -> done.on(x, x.info(6) - 1));
    }

    /** Doors between the first and the last places are taken, told in either order. */
    void takesDoors(String call, House[] houses, Door done) {
        taken(call + " with 0 and R", houses, x -> number(done.on(x, 0, x.info(6))));
        taken(call + " with R and 0", houses, x -> number(done.on(x, x.info(6), 0)));
        taken(call + " with R - 1 and R", houses, x -> number(done.on(x, x.info(6) - 1, x.info(6))));
        taken(call + " with R and R - 1", houses, x -> number(done.on(x, x.info(6), x.info(6) - 1)));
    }

    static long number(boolean answer) {
        return answer ? 1 : 0;
    }

    /** The call throws exactly this, and the object answers as one on which it was not called. */
    void refused(Class<?> want, String call, House[] houses, Call done) {
        for (House house : houses) {
            SmokeGuard x = house.make();
            check.throwing(call + " on " + house, want, () -> done.on(x));
            due(call + " on " + house + " changes nothing", Answers.of(x).equals(untouched.get(house)), true);
        }
    }

    void refused(Class<?> want, String call, Call done) {
        refused(want, call, House.ALL, done);
    }

    /** The first value on either side of a range is refused, and the farthest ones, too. */
    void refusedBeyond(Class<?> want, String call, House[] houses, int least, int most, CallWith done) {
        for (int value : new int[] {least - 1, most + 1, LEAST_INT, MOST_INT}) {
            refused(want, call + " with " + value, houses, x -> done.on(x, value));
        }
    }

    void refusedBeyond(Class<?> want, String call, int least, int most, CallWith done) {
        refusedBeyond(want, call, House.ALL, least, most, done);
    }

    /** The call refuses the numbers below 0, and those from what the object tells at info(), and some more, on. */
    private void refusedFrom(String call, int info, int more, CallWith done) {
        refused(INDEX, call + " with the first beyond", x -> done.on(x, x.info(info) + more));
        for (int value : new int[] {-1, LEAST_INT, MOST_INT}) {
            refused(INDEX, call + " with " + value, x -> done.on(x, value));
        }
    }

    void refusesNoRoom(String call, CallWith done) {
        refusedFrom(call, 6, 0, done);
    }

    void refusesNoPlace(String call, CallWith done) {
        refusedFrom(call, 6, 1, done);
    }

    void refusesNoSensor(String call, CallWith done) {
        refusedFrom(call, 12, 0, done);
    }

    void refusesNoRule(String call, CallWith done) {
        refusedFrom(call, 13, 0, done);
    }

    /** The call makes one record, and undo brings back all that was before it. */
    void undoable(String call, House[] houses, Call done) {
        for (House house : houses) {
            SmokeGuard x = house.make();
            done.on(x);
            due("records left when " + call + " on " + house + " is undone", x.undo(), house.records);
            due(call + " on " + house + " is undone", Answers.of(x).equals(untouched.get(house)), true);
        }
    }

    /** A new object of some rooms, with one record. */
    static SmokeGuard rooms(int rooms) {
        SmokeGuard x = new SmokeGuard();
        x.begin(rooms);
        return x;
    }
}
