/** Promise 4: what a STATE does. */
public final class StateTest {
    private static final Check check = new Check();

    public static void main(String[] args) {
        bringsAFollower();
        endsACandidate();
        endsALeader();
        isTooLate();
        goesOnFromTheBase();
        isOneAbove();
        isBelow();
        isTheSameForALeader();
        dropsWhatIsKeptAndAccepted();
        check.end();
    }

    private static void bringsAFollower() {
        SlotPaxos x = Stories.twoAhead();
        x.tick(0);
        x.request(0, 6);
        x.deliver(0);
        check.message("state", x, 0, 8, 1, 0, 0, 2, 161, 0);
        check.same("deliver", x.deliver(0), 8);
        int[] due = {1, 2, 161, 2, 0, -1, 0, 0, 0, 0, 0, 1, 0};
        check.replica("state", x, 0, due);
        check.same("slot(0, 1)", x.slot(0, 1), 0);
        check.same("slot(0, 2)", x.slot(0, 2), 0);
        check.same("waiting numbers stay", x.waiting(0, 0), 6);
        check.inFlight("no answer", x, 0);
    }

    private static void endsACandidate() {
        SlotPaxos x = Stories.twoAhead();
        x.request(0, 7);
        x.tick(0);
        Drive.bring(x, Drive.PREPARE, 0, 1);
        Drive.bring(x, Drive.STATE, 1, 0);
        int[] due = {1, 2, 161, 2, 3, -1, 0, 0, 0, 0, 0, 1, 0};
        check.replica("a candidate becomes follower", x, 0, due);
    }

    private static void endsALeader() {
        SlotPaxos x = new SlotPaxos(3, 1);
        x.request(2, 8);
        x.tick(2);
        Drive.bring(x, Drive.PREPARE, 2, 1);
        // While that promise is on its way, 0 and 1 learn two slots by a greater ballot.
        x.request(0, 5);
        Drive.lead(x, 0, 6, 1);
        Drive.bring(x, Drive.ACCEPT, 0, 1);
        Drive.bring(x, Drive.ACCEPTED, 1, 0);
        Drive.bring(x, Drive.CHOSEN, 0, 1);
        Drive.bring(x, Drive.ACCEPT, 0, 1);
        Drive.bring(x, Drive.ACCEPTED, 1, 0);
        Drive.bring(x, Drive.PROMISE, 1, 2);
        check.replica("a leader that lags", x, 2, 7, 2);
        check.replica("a leader that lags", x, 2, 12, 8);
        Drive.bring(x, Drive.ACCEPT, 2, 0);
        Drive.bring(x, Drive.STATE, 0, 2);
        int[] due = {1, 2, 161, 2, 2, -1, 0, 0, 0, 0, 2, 1, 0};
        check.replica("a leader becomes follower", x, 2, due);
    }

    private static void isTooLate() {
        SlotPaxos x = Stories.twoAhead();
        x.tick(0);
        x.twice(0);
        x.deliver(0);
        x.deliver(0);
        check.inFlight("two states", x, 2);
        x.deliver(0);
        x.request(0, 7);
        x.tick(0);
        Drive.bring(x, Drive.STATE, 1, 0);
        check.replica("a state that is not above INDEX", x, 0, 7, 1);
        check.replica("a state that is not above INDEX", x, 0, 8, 3);
        check.replica("a state that is not above INDEX", x, 0, 1, 2);
    }

    private static void goesOnFromTheBase() {
        SlotPaxos x = new SlotPaxos(3, 2);
        x.turn(0, false);
        for (int number = 5; number <= 7; number++) {
            Drive.learn(x, 1, number);
        }
        x.turn(0, true);
        x.tick(0);
        Drive.settle(x);
        check.replica("BASE 3", x, 0, 3, 3);
        Drive.learn(x, 1, 8);
        check.replica("one number is kept", x, 0, 3, 3);
        check.same("slot(0, 3)", x.slot(0, 3), 0);
        check.same("slot(0, 4)", x.slot(0, 4), 8);
        check.same("slot(1, 3)", x.slot(1, 3), 7);
        check.replica("the same SUM", x, 0, 2, x.replica(1, 2));
        Drive.learn(x, 1, 9);
        Drive.learn(x, 1, 10);
        check.replica("L numbers are kept", x, 0, 3, 4);
        check.same("slot(0, 4)", x.slot(0, 4), 0);
        check.same("slot(0, 5)", x.slot(0, 5), 9);
    }

    /**
     * Replica 1 leads, and 1 and 2 have learned 5; 6 is learned by 1, and accepted by 2, which has not been told
     * yet. Replica 0 was down, and has INDEX 2 by a state: it keeps nothing, so it helps by a state.
     */
    private static SlotPaxos oneBehind() {
        SlotPaxos x = new SlotPaxos(3, 1);
        x.turn(0, false);
        Drive.learn(x, 1, 5);
        x.request(1, 6);
        x.tick(1);
        Drive.bring(x, Drive.ACCEPT, 1, 2);
        Drive.bring(x, Drive.ACCEPTED, 2, 1);
        Drive.loseAll(x);
        x.turn(0, true);
        x.tick(0);
        Drive.settle(x);
        x.request(2, 6);
        x.request(2, 5);
        return x;
    }

    /** "if its slot is above INDEX, INDEX and SUM are those; ... (WAITING numbers stay)": it is INDEX + 1. */
    private static void isOneAbove() {
        SlotPaxos x = oneBehind();
        int[] before = {1, 1, 5, 0, 1, 1, 6, 0, 0, 0, 1, 2, 0};
        check.replica("one behind", x, 2, before);
        x.tick(2);
        Drive.bring(x, Drive.PREPARE, 2, 0);
        check.message("state", x, x.look(2) - 1, 8, 0, 2, 0, 2, 161, 0);
        Drive.bring(x, Drive.STATE, 0, 2);
        int[] due = {1, 2, 161, 2, 2, -1, 0, 0, 0, 0, 1, 2, 0};
        check.replica("a state of the next slot", x, 2, due);
        check.same("slot 1 is not kept any more", x.slot(2, 1), 0);
        check.same("slot 2 is not kept", x.slot(2, 2), 0);
        check.same("what is in it waits still", x.waiting(2, 0), 6);
        check.same("what waits", x.waiting(2, 1), 5);
    }

    /** The other side: its slot is INDEX - 1, and nothing is changed by it, be it of a follower or of a leader. */
    private static void isBelow() {
        SlotPaxos x = Stories.twoAhead();
        x.tick(0);
        x.twice(0);
        x.deliver(0);
        x.deliver(0);
        x.deliver(0);
        check.inFlight("a second state", x, 1);
        x.request(1, 7);
        x.tick(1);
        Drive.bring(x, Drive.ACCEPT, 1, 0);
        Drive.bring(x, Drive.ACCEPTED, 0, 1);
        Drive.bring(x, Drive.CHOSEN, 1, 0);
        Drive.lead(x, 0, 9, 1);
        int[] due = {1, 3, 31 * 161 + 7, 2, 3, 3, 9, 2, 3, 1, 3, 1, 9};
        check.replica("a leader with INDEX 3", x, 0, due);
        Drive.bring(x, Drive.STATE, 1, 0);
        check.replica("a state of slot 2", x, 0, due);
        check.same("slot 3 is kept", x.slot(0, 3), 7);
    }

    private static void isTheSameForALeader() {
        SlotPaxos x = Stories.twoAhead();
        x.tick(0);
        x.twice(0);
        x.deliver(0);
        x.deliver(0);
        x.deliver(0);
        Drive.lead(x, 0, 9, 1);
        int[] due = {1, 2, 161, 2, 3, 3, 9, 2, 3, 1, 3, 1, 9};
        check.replica("a leader with INDEX 2", x, 0, due);
        Drive.bring(x, Drive.STATE, 1, 0);
        check.replica("a state of slot 2", x, 0, due);
    }

    /** "BASE is the INDEX then, no number is kept, nothing is ACCEPTED". */
    private static void dropsWhatIsKeptAndAccepted() {
        SlotPaxos x = new SlotPaxos(3, 2);
        Drive.learn(x, 1, 5);
        x.request(1, 6);
        x.tick(1);
        Drive.bring(x, Drive.ACCEPT, 1, 0);
        x.turn(0, false);
        Drive.settle(x);
        x.tick(1);
        Drive.settle(x);
        for (int number = 7; number <= 8; number++) {
            Drive.learn(x, 1, number);
        }
        x.turn(0, true);
        int[] before = {1, 1, 5, 0, 1, 1, 6, 0, 0, 0, 1, 0, 0};
        check.replica("before", x, 0, before);
        check.same("slot(0, 1)", x.slot(0, 1), 5);
        x.tick(0);
        Drive.settle(x);
        int sum = ((5 * 31 + 6) * 31 + 7) * 31 + 8;
        int[] due = {1, 4, sum, 4, 1, -1, 0, 0, 0, 0, 1, 0, 0};
        check.replica("a state", x, 0, due);
        for (int slot = 0; slot <= 5; slot++) {
            check.same("slot(0, " + slot + ")", x.slot(0, slot), 0);
        }
    }
}
