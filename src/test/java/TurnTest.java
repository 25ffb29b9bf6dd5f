import java.util.Map;
import java.util.function.Supplier;

/** Promise 7. */
public final class TurnTest {
    private static final Check check = new Check();

    public static void main(String[] args) {
        goesDownAndUp();
        refusesWrongReplicas();
        keepsWhatIsKept();
        beginsAsFollower();
        leavesItsMessages();
        takesEachReplicaAndNoOther();
        keepsInAnyState();
        check.end();
    }

    private static void goesDownAndUp() {
        SlotPaxos x = new SlotPaxos(3, 2);
        check.same("up when it is up", x.turn(2, true), false);
        check.same("down", x.turn(2, false), true);
        check.replica("down", x, 2, 0, 0);
        check.same("down when it is down", x.turn(2, false), false);
        check.replica("down", x, 2, 0, 0);
        check.same("up", x.turn(2, true), true);
        check.replica("up", x, 2, 0, 1);
        check.replica("the others are as they were", x, 0, 0, 1);
        check.replica("the others are as they were", x, 1, 0, 1);
    }

    private static void refusesWrongReplicas() {
        SlotPaxos x = new SlotPaxos(3, 2);
        for (int r : new int[] {-1, 3, 4, Integer.MIN_VALUE, Integer.MAX_VALUE}) {
            check.same("turn(" + r + ", false)", x.turn(r, false), false);
            check.same("turn(" + r + ", true)", x.turn(r, true), false);
        }
        // What is refused changes nothing: an up replica keeps its numbers and its role.
        x.request(0, 5);
        x.tick(0);
        check.same("turn(0, true)", x.turn(0, true), false);
        check.replica("refused", x, 0, 7, 1);
        check.replica("refused", x, 0, 11, 1);
    }

    private static void keepsWhatIsKept() {
        SlotPaxos x = new SlotPaxos(3, 2);
        Drive.learn(x, 1, 5);
        Drive.learn(x, 1, 6);
        Drive.learn(x, 1, 7);
        x.request(1, 8);
        x.tick(1);
        Drive.bring(x, Drive.ACCEPT, 1, 0);
        int sum = (5 * 31 + 6) * 31 + 7;
        int[] due = {0, 3, sum, 1, 1, 1, 8, -1, -1, -1, -1, -1, -1};
        for (int r = 0; r < 2; r++) {
            x.turn(r, false);
            check.replica("down", x, r, due);
            check.same("slot(" + r + ", 2)", x.slot(r, 2), 6);
            check.same("slot(" + r + ", 3)", x.slot(r, 3), 7);
            check.same("waiting(" + r + ", 0)", x.waiting(r, 0), 0);
        }
    }

    private static void beginsAsFollower() {
        SlotPaxos x = new SlotPaxos(3, 2);
        Drive.lead(x, 1, 5, 2);
        x.turn(1, false);
        x.turn(1, true);
        int[] due = {1, 0, 0, 0, 1, 1, 5, 0, 0, 0, 1, 0, 0};
        check.replica("a leader behind a restart", x, 1, due);
        check.same("waiting numbers are gone", x.waiting(1, 0), 0);

        SlotPaxos y = new SlotPaxos(3, 2);
        y.request(2, 5);
        y.tick(2);
        check.replica("SEEN of a candidate", y, 2, 10, 0);
        y.turn(2, false);
        y.turn(2, true);
        check.replica("SEEN behind a restart", y, 2, 10, 2);
        check.replica("a candidate behind a restart", y, 2, 7, 0);

        // Restarted, one that has seen a ballot and not promised it knows of it no more.
        SlotPaxos z = new SlotPaxos(3, 2);
        z.turn(0, false);
        Drive.learn(z, 1, 5);
        z.turn(0, true);
        z.request(0, 6);
        z.tick(0);
        Drive.bring(z, Drive.PREPARE, 0, 2);
        check.replica("SEEN, not PROMISED", z, 2, 10, 3);
        z.turn(2, false);
        z.turn(2, true);
        check.replica("SEEN is PROMISED", z, 2, 10, 1);
    }

    private static void leavesItsMessages() {
        SlotPaxos x = new SlotPaxos(3, 2);
        x.request(1, 5);
        x.tick(1);
        x.turn(1, false);
        check.inFlight("what it has sent", x, 2);
        x.deliver(0);
        check.message("an answer to one that is down", x, 1, 2, 0, 1, 1, 1, 0, 0);
        x.turn(1, true);
        check.same("it comes", x.deliver(1), 2);
        check.replica("it is SEEN", x, 1, 10, 1);
        check.replica("it leads nobody", x, 1, 7, 0);
    }

    private static void takesEachReplicaAndNoOther() {
        for (int n = 3; n <= 5; n++) {
            for (boolean up : new boolean[] {false, true}) {
                SlotPaxos x = new SlotPaxos(n, 2);
                check.same("turn(-1) of " + n, x.turn(-1, up), false);
                check.same("turn(n) of " + n, x.turn(n, up), false);
                check.same("turn(0) of " + n, x.turn(0, up), !up);
                check.same("turn(n - 1) of " + n, x.turn(n - 1, up), !up);
                for (int r = 0; r < n; r++) {
                    check.replica("turned", x, r, 0, !up && (r == 0 || r == n - 1) ? 0 : 1);
                }
            }
        }
    }

    /** "It keeps, also when it is DOWN"; "Only as long as it is UP"; "FOLLOWER (at first, and behind a restart)". */
    private static void keepsInAnyState() {
        for (Map.Entry<String, Supplier<SlotPaxos>> entry : Stories.all().entrySet()) {
            int n = entry.getValue().get().look(0);
            for (int r = 0; r < n; r++) {
                SlotPaxos x = entry.getValue().get();
                x.turn(r, true);
                int[] row = new int[13];
                for (int what = 1; what <= 6; what++) {
                    row[what] = x.replica(r, what);
                }
                int slot = x.slot(r, row[1]);
                x.turn(r, false);
                for (int what = 7; what <= 12; what++) {
                    row[what] = -1;
                }
                check.replica(entry.getKey() + ", down", x, r, row);
                check.same(entry.getKey() + ", down: slot", x.slot(r, row[1]), slot);
                check.same(entry.getKey() + ", down: waiting", x.waiting(r, 0), 0);
                x.turn(r, true);
                int[] again = {1, row[1], row[2], row[3], row[4], row[5], row[6], 0, 0, 0, row[4], 0, 0};
                check.replica(entry.getKey() + ", up again", x, r, again);
                check.same(entry.getKey() + ", up again: slot", x.slot(r, row[1]), slot);
                check.same(entry.getKey() + ", up again: waiting", x.waiting(r, 0), 0);
            }
        }
    }
}
