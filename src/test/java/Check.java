import java.util.List;
import java.util.function.Consumer;
import java.util.function.Supplier;

/** Counts and prints the calls whose answer is not the one that is due. */
final class Check {
    private int wrong;

    void same(String call, int got, int due) {
        if (got != due) {
            wrong++;
            System.out.println(call + " answered " + got + ", due is " + due);
        }
    }

    void same(String call, boolean got, boolean due) {
        if (got != due) {
            wrong++;
            System.out.println(call + " answered " + got + ", due is " + due);
        }
    }

    /** The row is due: kind, sender, receiver, ballot, slot, number, ballot of what a promise tells. */
    void message(String when, SlotPaxos x, int i, int... row) {
        for (int what = 0; what < 7; what++) {
            same(when + ": message(" + i + ", " + what + ")", x.message(i, what), row[what]);
        }
    }

    void replica(String when, SlotPaxos x, int r, int what, int due) {
        same(when + ": replica(" + r + ", " + what + ")", x.replica(r, what), due);
    }

    /** The row is due for what 0 to 12. */
    void replica(String when, SlotPaxos x, int r, int[] row) {
        for (int what = 0; what <= 12; what++) {
            replica(when, x, r, what, row[what]);
        }
    }

    void inFlight(String when, SlotPaxos x, int due) {
        same(when + ": look(2)", x.look(2), due);
    }

    /** The second story leads where the first one leads, in all that can be seen. */
    void samePicture(String when, Supplier<SlotPaxos> got, Supplier<SlotPaxos> due) {
        List<String> gotRows = Picture.of(got);
        List<String> dueRows = Picture.of(due);
        if (gotRows.equals(dueRows)) {
            return;
        }
        wrong++;
        int row = 0;
        while (row < gotRows.size() && row < dueRows.size() && gotRows.get(row).equals(dueRows.get(row))) {
            row++;
        }
        System.out.println(when + ": seen is " + (row < gotRows.size() ? gotRows.get(row) : "no more")
                + ", due is " + (row < dueRows.size() ? dueRows.get(row) : "no more"));
    }

    /**
     * Nothing is changed by the calls: not what can be seen, nor what cannot, for the cluster goes on as if
     * they had not been made.
     */
    void changesNothing(String when, Supplier<SlotPaxos> story, Consumer<SlotPaxos> calls) {
        Supplier<SlotPaxos> called = () -> {
            SlotPaxos x = story.get();
            calls.accept(x);
            return x;
        };
        samePicture(when, called, story);
        samePicture(when + ", and going on", () -> Drive.goOn(called.get()), () -> Drive.goOn(story.get()));
    }

    void end() {
        System.out.println(wrong == 0 ? "all answers are as due" : wrong + " answers are not as due");
        if (wrong != 0) {
            System.exit(1);
        }
    }
}
