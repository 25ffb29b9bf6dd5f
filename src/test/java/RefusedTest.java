import java.util.Map;
import java.util.function.Consumer;
import java.util.function.Supplier;

/**
 * "What answers false or NONE changes nothing": in all kinds of states, each call that the document refuses
 * there is refused, each other one is not, and what is refused or only looks changes nothing.
 */
public final class RefusedTest {
    private static final Check check = new Check();
    private static final int[] FAR = {Integer.MIN_VALUE, Integer.MIN_VALUE + 1, -2, -1, 6, 8, 13, 32, 199, 200, 201,
        1000, Integer.MAX_VALUE - 1, Integer.MAX_VALUE};

    private final String state;
    private final Supplier<SlotPaxos> story;
    private final int replicas;
    private final int inFlight;

    private RefusedTest(String state, Supplier<SlotPaxos> story) {
        this.state = state;
        this.story = story;
        replicas = story.get().look(0);
        inFlight = story.get().look(2);
    }

    public static void main(String[] args) {
        for (Map.Entry<String, Supplier<SlotPaxos>> entry : Stories.all().entrySet()) {
            RefusedTest test = new RefusedTest(entry.getKey(), entry.getValue());
            test.requests();
            test.ticks();
            test.places();
            test.turns();
            test.looks();
        }
        check.end();
    }

    private int[] replicasAndOthers() {
        return around(replicas);
    }

    private int[] placesAndOthers() {
        return around(inFlight);
    }

    /** The first, the last, and one that is not, on either side, and some far away. */
    private static int[] around(int count) {
        int[] all = new int[FAR.length + 4];
        System.arraycopy(FAR, 0, all, 0, FAR.length);
        all[FAR.length] = 0;
        all[FAR.length + 1] = count / 2;
        all[FAR.length + 2] = count - 1;
        all[FAR.length + 3] = count;
        return all;
    }

    private boolean isReplica(int r) {
        return r >= 0 && r < replicas;
    }

    private boolean isUp(int r) {
        return isReplica(r) && story.get().replica(r, 0) == 1;
    }

    private boolean isInFlight(int i) {
        return i >= 0 && i < inFlight;
    }

    private void refused(String call, Consumer<SlotPaxos> one) {
        check.changesNothing(state + ": " + call, story, one);
    }

    private void requests() {
        for (int r : replicasAndOthers()) {
            for (int number : new int[] {Integer.MIN_VALUE, -1, 0, 1, 2, Integer.MAX_VALUE}) {
                boolean due = isUp(r) && number >= 1 && story.get().replica(r, 11) < 8;
                check.same(state + ": request(" + r + ", " + number + ")", story.get().request(r, number), due);
                if (!due) {
                    refused("request(" + r + ", " + number + ")", x -> x.request(r, number));
                }
            }
        }
    }

    private void ticks() {
        for (int r : replicasAndOthers()) {
            check.same(state + ": tick(" + r + ") is refused", story.get().tick(r) == -1, !isUp(r));
            if (!isUp(r)) {
                refused("tick(" + r + ")", x -> x.tick(r));
            }
        }
    }

    private void places() {
        for (int i : placesAndOthers()) {
            boolean there = isInFlight(i);
            check.same(state + ": deliver(" + i + ")", story.get().deliver(i), there ? story.get().message(i, 0) : -1);
            check.same(state + ": lose(" + i + ")", story.get().lose(i), there);
            check.same(state + ": twice(" + i + ")", story.get().twice(i), there && inFlight < 200);
            if (!there) {
                refused("deliver(" + i + ")", x -> x.deliver(i));
                refused("lose(" + i + ")", x -> x.lose(i));
            }
            if (!there || inFlight == 200) {
                refused("twice(" + i + ")", x -> x.twice(i));
            }
        }
    }

    private void turns() {
        for (int r : replicasAndOthers()) {
            for (boolean up : new boolean[] {false, true}) {
                boolean due = isReplica(r) && isUp(r) != up;
                check.same(state + ": turn(" + r + ", " + up + ")", story.get().turn(r, up), due);
                if (!due) {
                    refused("turn(" + r + ", " + up + ")", x -> x.turn(r, up));
                }
            }
        }
    }

    private void looks() {
        refused("looks at replicas", x -> {
            for (int r : replicasAndOthers()) {
                for (int what = -1; what <= 13; what += 2) {
                    x.replica(r, what);
                }
            }
        });
        refused("looks at slots and waiting numbers", x -> {
            for (int r = -1; r <= replicas; r++) {
                for (int i = -1; i <= 9; i++) {
                    x.slot(r, i);
                    x.waiting(r, i);
                }
            }
        });
        refused("looks at messages", x -> {
            for (int i : placesAndOthers()) {
                for (int what = -1; what <= 7; what += 2) {
                    x.message(i, what);
                }
            }
        });
        refused("looks at the cluster", x -> {
            for (int which : FAR) {
                x.look(which);
            }
            for (int which = 0; which <= 5; which++) {
                x.look(which);
            }
        });
    }
}
