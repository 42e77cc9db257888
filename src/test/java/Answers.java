import java.util.ArrayList;
import java.util.List;

/** What an object answers from now on. Two objects of which all of it is alike are taken to be in the same state. */
final class Answers {
    private final SmokeGuard x;
    private final List<Long> told = new ArrayList<>();

    private Answers(SmokeGuard x) {
        this.x = x;
    }

    /** Asks about now, about what each record restores, and about the minutes behind the oldest; x is used up. */
    static List<Long> of(SmokeGuard x) {
        Answers answers = new Answers(x);
        do {
            answers.lookAt();
        } while (answers.hasUndone());
        answers.letMinutesPass();
        return answers.told;
    }

    /** What is thought of the minutes to come: all but the number of records. */
    static List<Long> forecasts(SmokeGuard x) {
        Answers answers = new Answers(x);
        answers.lookAhead();
        return answers.told;
    }

    /** The checksum tells all but the contents of rules and records: rules show in the forecasts. */
    private void lookAt() {
        told.add(x.checksum());
        lookAhead();
    }

    private void lookAhead() {
        for (int room = 0; room < x.info(6); room++) {
            told.add((long) x.smokeAfter(room, 1));
            told.add((long) x.smokeAfter(room, 30));
            told.add((long) x.alarmIn(room, 60));
            told.add((long) x.neededSensors(room, 30));
            told.add((long) x.peak(room, 2, 20));
        }
        told.add((long) x.bestOpening(20));
        told.add((long) x.burnsFor(60));
    }

    private boolean hasUndone() {
        try {
            told.add((long) x.undo());
            return true;
        } catch (IllegalStateException e) {
            return false;
        }
    }

    private void letMinutesPass() {
        for (int i = 0; i < 5; i++) {
            x.setSmoke(0, 60 * i * i * i);
            told.add((long) x.pass(1));
            told.add(x.checksum());
        }
    }
}
