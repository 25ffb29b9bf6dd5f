/** Promise 2. */
public final class RequestTest {
    private static final Check check = new Check();

    public static void main(String[] args) {
        takesUpToEight();
        refusesWrongNumbers();
        refusesWrongReplicas();
        refusesWhenDown();
        takesTheSameAgain();
        hasRoomAgain();
        takesEachReplicaAndNoOther();
        check.end();
    }

    private static void takesUpToEight() {
        SlotPaxos x = new SlotPaxos(3, 2);
        for (int i = 0; i < 8; i++) {
            check.same("request " + i, x.request(1, 10 + i), true);
            check.replica("request " + i, x, 1, 11, i + 1);
        }
        check.same("the ninth request", x.request(1, 99), false);
        check.replica("the ninth request", x, 1, 11, 8);
        for (int i = 0; i < 8; i++) {
            check.same("waiting(1, " + i + ")", x.waiting(1, i), 10 + i);
        }
        check.replica("request at 1", x, 0, 11, 0);
        check.inFlight("request sends nothing", x, 0);
        check.same("a request of another replica", x.request(0, 99), true);
    }

    private static void refusesWrongNumbers() {
        SlotPaxos x = new SlotPaxos(3, 2);
        check.same("request(0, 0)", x.request(0, 0), false);
        check.same("request(0, -1)", x.request(0, -1), false);
        check.same("request(0, MIN)", x.request(0, Integer.MIN_VALUE), false);
        check.replica("refused", x, 0, 11, 0);
        check.same("request(0, 1)", x.request(0, 1), true);
        check.same("request(0, MAX)", x.request(0, Integer.MAX_VALUE), true);
        check.same("waiting(0, 1)", x.waiting(0, 1), Integer.MAX_VALUE);
    }

    private static void refusesWrongReplicas() {
        SlotPaxos x = new SlotPaxos(4, 2);
        for (int r : new int[] {-1, 4, 5, Integer.MIN_VALUE, Integer.MAX_VALUE}) {
            check.same("request(" + r + ", 1)", x.request(r, 1), false);
        }
        check.same("request(3, 1)", x.request(3, 1), true);
    }

    private static void refusesWhenDown() {
        SlotPaxos x = new SlotPaxos(3, 2);
        x.turn(2, false);
        check.same("request of one that is down", x.request(2, 1), false);
        x.turn(2, true);
        check.replica("up again", x, 2, 11, 0);
        check.same("request of one that is up again", x.request(2, 1), true);
    }

    private static void takesTheSameAgain() {
        SlotPaxos x = new SlotPaxos(3, 2);
        check.same("request", x.request(0, 5), true);
        check.same("request of the same", x.request(0, 5), true);
        check.replica("both wait", x, 0, 11, 2);
        x.tick(0);
        Drive.settle(x);
        check.replica("one slot, and both are gone", x, 0, 1, 1);
        check.replica("one slot, and both are gone", x, 0, 11, 0);
        check.same("request of one that was learned", x.request(0, 5), true);
        x.tick(0);
        Drive.settle(x);
        check.replica("it is learned once more", x, 0, 1, 2);
        check.same("slot(0, 2)", x.slot(0, 2), 5);
    }

    /** "false if ... it ... has 8": with 8 there is no room, with one learned there is. */
    private static void hasRoomAgain() {
        SlotPaxos x = new SlotPaxos(3, 2);
        for (int i = 1; i <= 7; i++) {
            check.same("request " + i, x.request(0, i), true);
        }
        check.same("the eighth", x.request(0, 8), true);
        check.same("the ninth", x.request(0, 9), false);
        x.tick(0);
        check.same("a candidate with 8", x.request(0, 9), false);
        Drive.bring(x, Drive.PREPARE, 0, 1);
        Drive.bring(x, Drive.PROMISE, 1, 0);
        check.same("a leader with 8", x.request(0, 9), false);
        check.same("the last", x.waiting(0, 7), 8);
        Drive.bring(x, Drive.ACCEPT, 0, 1);
        Drive.bring(x, Drive.ACCEPTED, 1, 0);
        check.replica("one is learned", x, 0, 11, 7);
        check.same("the eighth", x.request(0, 9), true);
        check.same("the ninth", x.request(0, 10), false);
        check.same("the last", x.waiting(0, 7), 9);
        // What waits is gone behind a restart, and there is room for 8.
        Drive.restart(x, 0);
        for (int i = 1; i <= 8; i++) {
            check.same("request " + i, x.request(0, i), true);
        }
        check.same("the ninth", x.request(0, 9), false);
    }

    private static void takesEachReplicaAndNoOther() {
        for (int n = 3; n <= 5; n++) {
            SlotPaxos x = new SlotPaxos(n, 2);
            check.same("request(-1, 5) of " + n, x.request(-1, 5), false);
            check.same("request(0, 5) of " + n, x.request(0, 5), true);
            check.same("request(n - 1, 5) of " + n, x.request(n - 1, 5), true);
            check.same("request(n, 5) of " + n, x.request(n, 5), false);
        }
    }
}
