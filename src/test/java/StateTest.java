/** Promise 4: what a STATE does. */
public final class StateTest {
    private static final Check check = new Check();

    public static void main(String[] args) {
        bringsAFollower();
        endsACandidate();
        endsALeader();
        isTooLate();
        goesOnFromTheBase();
        check.end();
    }

    /** Replicas 1 and 2 have learned 5 and 6 and keep 6 alone; replica 0 was down. */
    private static SlotPaxos twoAhead() {
        SlotPaxos x = new SlotPaxos(3, 1);
        x.turn(0, false);
        Drive.learn(x, 1, 5);
        Drive.learn(x, 1, 6);
        x.turn(0, true);
        return x;
    }

    private static void bringsAFollower() {
        SlotPaxos x = twoAhead();
        x.tick(0);
        x.request(0, 6);
        x.deliver(0);
        check.message("state", x, 0, 8, 1, 0, 0, 2, 161, 0);
        check.same("deliver", x.deliver(0), 8);
        int[] due = {1, 2, 161, 2, 0, -1, 0, 0, 0, 0, 0, 1, 0};
        check.replica("state", x, 0, due);
        check.same("slot(0, 1)", x.slot(0, 1), 0);
        check.same("slot(0, 2)", x.slot(0, 2), 0);
        check.same("waiting numbers stay", x.waiting(0, 0), 6);
        check.inFlight("no answer", x, 0);
    }

    private static void endsACandidate() {
        SlotPaxos x = twoAhead();
        x.request(0, 7);
        x.tick(0);
        Drive.bring(x, Drive.PREPARE, 0, 1);
        Drive.bring(x, Drive.STATE, 1, 0);
        int[] due = {1, 2, 161, 2, 3, -1, 0, 0, 0, 0, 0, 1, 0};
        check.replica("a candidate becomes follower", x, 0, due);
    }

    private static void endsALeader() {
        SlotPaxos x = new SlotPaxos(3, 1);
        x.request(2, 8);
        x.tick(2);
        Drive.bring(x, Drive.PREPARE, 2, 1);
        // While that promise is on its way, 0 and 1 learn two slots by a greater ballot.
        x.request(0, 5);
        Drive.lead(x, 0, 6, 1);
        Drive.bring(x, Drive.ACCEPT, 0, 1);
        Drive.bring(x, Drive.ACCEPTED, 1, 0);
        Drive.bring(x, Drive.CHOSEN, 0, 1);
        Drive.bring(x, Drive.ACCEPT, 0, 1);
        Drive.bring(x, Drive.ACCEPTED, 1, 0);
        Drive.bring(x, Drive.PROMISE, 1, 2);
        check.replica("a leader that lags", x, 2, 7, 2);
        check.replica("a leader that lags", x, 2, 12, 8);
        Drive.bring(x, Drive.ACCEPT, 2, 0);
        Drive.bring(x, Drive.STATE, 0, 2);
        int[] due = {1, 2, 161, 2, 2, -1, 0, 0, 0, 0, 2, 1, 0};
        check.replica("a leader becomes follower", x, 2, due);
    }

    private static void isTooLate() {
        SlotPaxos x = twoAhead();
        x.tick(0);
        x.twice(0);
        x.deliver(0);
        x.deliver(0);
        check.inFlight("two states", x, 2);
        x.deliver(0);
        x.request(0, 7);
        x.tick(0);
        Drive.bring(x, Drive.STATE, 1, 0);
        check.replica("a state that is not above INDEX", x, 0, 7, 1);
        check.replica("a state that is not above INDEX", x, 0, 8, 3);
        check.replica("a state that is not above INDEX", x, 0, 1, 2);
    }

    private static void goesOnFromTheBase() {
        SlotPaxos x = new SlotPaxos(3, 2);
        x.turn(0, false);
        for (int number = 5; number <= 7; number++) {
            Drive.learn(x, 1, number);
        }
        x.turn(0, true);
        x.tick(0);
        Drive.settle(x);
        check.replica("BASE 3", x, 0, 3, 3);
        Drive.learn(x, 1, 8);
        check.replica("one number is kept", x, 0, 3, 3);
        check.same("slot(0, 3)", x.slot(0, 3), 0);
        check.same("slot(0, 4)", x.slot(0, 4), 8);
        check.same("slot(1, 3)", x.slot(1, 3), 7);
        check.replica("the same SUM", x, 0, 2, x.replica(1, 2));
        Drive.learn(x, 1, 9);
        Drive.learn(x, 1, 10);
        check.replica("L numbers are kept", x, 0, 3, 4);
        check.same("slot(0, 4)", x.slot(0, 4), 0);
        check.same("slot(0, 5)", x.slot(0, 5), 9);
    }
}
