/** Promise 1. */
public final class NewObjectTest {
    private static final Check check = new Check();

    public static void main(String[] args) {
        takesTheNearestReplicas();
        takesTheNearestKept();
        beginsEmpty();
        check.same("NONE", SlotPaxos.NONE, -1);
        check.end();
    }

    private static void takesTheNearestReplicas() {
        int[][] pairs = {{Integer.MIN_VALUE, 3}, {-1, 3}, {0, 3}, {2, 3}, {3, 3}, {4, 4}, {5, 5}, {6, 5},
            {Integer.MAX_VALUE, 5}};
        for (int[] pair : pairs) {
            SlotPaxos x = new SlotPaxos(pair[0], 4);
            check.same("N of " + pair[0], x.look(0), pair[1]);
            check.same("last replica of " + pair[0], x.replica(pair[1] - 1, 0), 1);
            check.same("behind the last replica of " + pair[0], x.replica(pair[1], 0), -1);
        }
    }

    private static void takesTheNearestKept() {
        int[][] pairs = {{Integer.MIN_VALUE, 1}, {-1, 1}, {0, 1}, {1, 1}, {2, 2}, {31, 31}, {32, 32}, {33, 32},
            {Integer.MAX_VALUE, 32}};
        for (int[] pair : pairs) {
            check.same("L of " + pair[0], new SlotPaxos(3, pair[0]).look(1), pair[1]);
        }
    }

    private static void beginsEmpty() {
        int[] due = {1, 0, 0, 0, 0, -1, 0, 0, 0, 0, 0, 0, 0};
        for (int n = 3; n <= 5; n++) {
            SlotPaxos x = new SlotPaxos(n, 3);
            for (int r = 0; r < n; r++) {
                check.replica("new", x, r, due);
                check.same("new: slot", x.slot(r, 1), 0);
                check.same("new: waiting", x.waiting(r, 0), 0);
            }
            for (int which = 2; which <= 5; which++) {
                check.same("new: look(" + which + ")", x.look(which), 0);
            }
            check.same("new: message", x.message(0, 0), -1);
        }
    }
}
