import java.util.ArrayList;
import java.util.List;
import java.util.function.Supplier;

/**
 * All that a cluster tells behind a story: every answer of replica, slot, waiting, message and look,
 * a row each. An object is good for 512 calls, so the story is told anew after some looks.
 */
final class Picture {
    private static final int LOOKS = 100;

    private final Supplier<SlotPaxos> story;
    private final List<String> rows = new ArrayList<>();
    private SlotPaxos now;
    private int looks;

    private Picture(Supplier<SlotPaxos> story) {
        this.story = story;
    }

    static List<String> of(Supplier<SlotPaxos> story) {
        Picture picture = new Picture(story);
        picture.take();
        return picture.rows;
    }

    private SlotPaxos fresh() {
        if (now == null || looks == LOOKS) {
            now = story.get();
            looks = 0;
        }
        looks++;
        return now;
    }

    private void take() {
        for (int which = 0; which <= 5; which++) {
            rows.add("look(" + which + ") " + fresh().look(which));
        }
        int replicas = fresh().look(0);
        for (int r = 0; r < replicas; r++) {
            takeReplica(r);
        }
        int inFlight = fresh().look(2);
        for (int i = 0; i < inFlight; i++) {
            for (int what = 0; what <= 6; what++) {
                rows.add("message(" + i + ", " + what + ") " + fresh().message(i, what));
            }
        }
    }

    private void takeReplica(int r) {
        for (int what = 0; what <= 12; what++) {
            rows.add("replica(" + r + ", " + what + ") " + fresh().replica(r, what));
        }
        int index = fresh().replica(r, 1);
        for (int slot = 0; slot <= index + 1; slot++) {
            rows.add("slot(" + r + ", " + slot + ") " + fresh().slot(r, slot));
        }
        for (int i = 0; i <= 8; i++) {
            rows.add("waiting(" + r + ", " + i + ") " + fresh().waiting(r, i));
        }
    }
}
