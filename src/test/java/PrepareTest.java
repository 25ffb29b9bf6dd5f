/** Promise 4: what a PREPARE does. */
public final class PrepareTest {
    private static final Check check = new Check();

    public static void main(String[] args) {
        isPromised();
        isPromisedAgain();
        isDenied();
        tellsWhatIsAccepted();
        tellsNothingOfALaterSlot();
        endsARole();
        helpsOneThatLags();
        isMeasuredByPromised();
        isMeasuredByACandidate();
        isMeasuredByALeader();
        tellsOfItsSlotAlone();
        check.end();
    }

    private static void isPromised() {
        SlotPaxos x = new SlotPaxos(3, 2);
        x.request(1, 5);
        x.tick(1);
        check.same("deliver", x.deliver(0), 1);
        check.message("promise", x, 1, 2, 0, 1, 1, 1, 0, 0);
        int[] due = {1, 0, 0, 0, 1, -1, 0, 0, 0, 0, 1, 0, 0};
        check.replica("promised", x, 0, due);
    }

    private static void isPromisedAgain() {
        SlotPaxos x = new SlotPaxos(3, 2);
        x.request(1, 5);
        x.tick(1);
        x.twice(0);
        x.deliver(0);
        x.deliver(1);
        check.inFlight("two promises and a prepare", x, 3);
        check.message("the second promise", x, 2, 2, 0, 1, 1, 1, 0, 0);
    }

    private static void isDenied() {
        SlotPaxos x = new SlotPaxos(3, 2);
        x.request(2, 5);
        x.tick(2);
        Drive.bring(x, Drive.PREPARE, 2, 0);
        Drive.loseAll(x);
        x.request(1, 6);
        x.tick(1);
        Drive.bring(x, Drive.PREPARE, 1, 0);
        check.message("deny", x, 1, 7, 0, 1, 2, 0, 0, 0);
        check.replica("denied", x, 0, 4, 2);
        // A candidate that denies goes on.
        Drive.bring(x, Drive.PREPARE, 1, 2);
        check.message("deny of a candidate", x, 1, 7, 2, 1, 2, 0, 0, 0);
        check.replica("still candidate", x, 2, 7, 1);
    }

    private static void tellsWhatIsAccepted() {
        SlotPaxos x = new SlotPaxos(3, 2);
        Drive.lead(x, 1, 5, 2);
        Drive.acceptAt(x, 1, 0);
        x.request(2, 6);
        x.tick(2);
        check.replica("its ballot", x, 2, 8, 2);
        Drive.bring(x, Drive.PREPARE, 2, 0);
        check.message("promise with what is accepted", x, 1, 2, 0, 2, 2, 1, 5, 1);
        check.replica("still accepted", x, 0, 5, 1);
        check.replica("still accepted", x, 0, 6, 5);
    }

    private static void tellsNothingOfALaterSlot() {
        SlotPaxos x = new SlotPaxos(3, 2);
        Drive.lead(x, 1, 5, 2);
        Drive.bring(x, Drive.ACCEPT, 1, 0);
        Drive.bring(x, Drive.ACCEPTED, 0, 1);
        Drive.bring(x, Drive.CHOSEN, 1, 2);
        Drive.loseAll(x);
        x.request(2, 6);
        x.tick(2);
        Drive.bring(x, Drive.PREPARE, 2, 0);
        check.message("promise for slot 2 at INDEX 0", x, 1, 2, 0, 2, 2, 2, 0, 0);
        check.replica("promised", x, 0, 4, 2);
        check.replica("still accepted for slot 1", x, 0, 6, 5);
    }

    private static void endsARole() {
        SlotPaxos x = new SlotPaxos(3, 2);
        Drive.lead(x, 1, 5, 2);
        Drive.loseAll(x);
        x.request(0, 6);
        x.tick(0);
        x.request(2, 7);
        x.tick(2);
        check.replica("a candidate", x, 2, 7, 1);
        Drive.bring(x, Drive.PREPARE, 0, 1);
        int[] due = {1, 0, 0, 0, 3, 1, 5, 0, 0, 0, 3, 1, 0};
        check.replica("a leader becomes follower", x, 1, due);
        x.tick(1);
        check.replica("candidate", x, 1, 8, 4);
        Drive.bring(x, Drive.PREPARE, 1, 0);
        int[] follower = {1, 0, 0, 0, 4, -1, 0, 0, 0, 0, 4, 1, 0};
        check.replica("a candidate becomes follower", x, 0, follower);
    }

    private static void helpsOneThatLags() {
        SlotPaxos x = new SlotPaxos(3, 1);
        x.turn(0, false);
        Drive.learn(x, 1, 5);
        x.turn(0, true);
        x.request(0, 6);
        x.tick(0);
        Drive.bring(x, Drive.PREPARE, 0, 1);
        check.message("the number of the slot", x, 1, 5, 1, 0, 0, 1, 5, 0);
        check.replica("a leader that helps", x, 1, 7, 2);
        check.replica("PROMISED of one that helps", x, 1, 4, 1);
        check.replica("SEEN of one that helps", x, 1, 10, 3);
        Drive.loseAll(x);
        x.turn(0, false);
        Drive.learn(x, 1, 7);
        x.turn(0, true);
        x.request(0, 6);
        x.tick(0);
        Drive.bring(x, Drive.PREPARE, 0, 1);
        check.message("the state, for slot 1 is not kept", x, 1, 8, 1, 0, 0, 2, 31 * 5 + 7, 0);
    }

    /** Replicas 1, 2 and 3 of 5 campaign with 1, 2 and 3, and those prepares of them that go to 4 are in flight. */
    private static SlotPaxos threeCampaign() {
        SlotPaxos x = new SlotPaxos(5, 2);
        for (int r = 1; r <= 3; r++) {
            Drive.lead(x, r, 10 + r);
        }
        return x;
    }

    /** "if b is not below PROMISED: PROMISED is b": below, the same, above. "Else DENY (7) with PROMISED goes to q". */
    private static void isMeasuredByPromised() {
        for (int ballot = 1; ballot <= 3; ballot++) {
            SlotPaxos x = threeCampaign();
            x.twice(Drive.place(x, Drive.PREPARE, 2, 4));
            Drive.bring(x, Drive.PREPARE, 2, 4);
            check.replica("PROMISED", x, 4, 4, 2);
            Drive.bring(x, Drive.PREPARE, ballot, 4);
            int last = x.look(2) - 1;
            if (ballot < 2) {
                check.message("below PROMISED", x, last, 7, 4, ballot, 2, 0, 0, 0);
            } else {
                check.message("not below PROMISED", x, last, 2, 4, ballot, ballot, 1, 0, 0);
            }
            int[] due = {1, 0, 0, 0, Math.max(2, ballot), -1, 0, 0, 0, 0, Math.max(2, ballot), 0, 0};
            check.replica("a prepare with " + ballot, x, 4, due);
        }
    }

    /** "a CANDIDATE or LEADER becomes FOLLOWER", if b is above its own, and stays what it is if b is below. */
    private static void isMeasuredByACandidate() {
        SlotPaxos x = threeCampaign();
        Drive.bring(x, Drive.PREPARE, 1, 2);
        check.message("below", x, x.look(2) - 1, 7, 2, 1, 2, 0, 0, 0);
        int[] candidate = {1, 0, 0, 0, 2, -1, 0, 1, 2, 4, 1, 1, 0};
        check.replica("still candidate", x, 2, candidate);
        Drive.bring(x, Drive.PREPARE, 3, 2);
        check.message("above", x, x.look(2) - 1, 2, 2, 3, 3, 1, 0, 0);
        int[] follower = {1, 0, 0, 0, 3, -1, 0, 0, 0, 0, 3, 1, 0};
        check.replica("a candidate becomes follower", x, 2, follower);
    }

    private static void isMeasuredByALeader() {
        SlotPaxos x = threeCampaign();
        for (int other : new int[] {0, 4}) {
            Drive.bring(x, Drive.PREPARE, 2, other);
            Drive.bring(x, Drive.PROMISE, other, 2);
        }
        Drive.bring(x, Drive.PREPARE, 1, 2);
        check.message("below", x, x.look(2) - 1, 7, 2, 1, 2, 0, 0, 0);
        int[] leader = {1, 0, 0, 0, 2, 2, 12, 2, 2, 4, 2, 1, 12};
        check.replica("still leader", x, 2, leader);
        Drive.bring(x, Drive.PREPARE, 3, 2);
        check.message("above: what it has accepted itself is told", x, x.look(2) - 1, 2, 2, 3, 3, 1, 12, 2);
        int[] follower = {1, 0, 0, 0, 3, 2, 12, 0, 0, 0, 3, 1, 0};
        check.replica("a leader becomes follower", x, 2, follower);
    }

    /** "with its ACCEPTED one, if s is INDEX + 1 and there is one": for slot 2 it has one, at INDEX 1 and at INDEX 0. */
    private static void tellsOfItsSlotAlone() {
        SlotPaxos x = new SlotPaxos(3, 2);
        Drive.learn(x, 1, 5);
        x.request(1, 6);
        x.tick(1);
        Drive.bring(x, Drive.ACCEPT, 1, 0);
        Drive.loseAll(x);
        Drive.lead(x, 2, 7);
        Drive.bring(x, Drive.PREPARE, 2, 0);
        check.message("of slot INDEX + 1, with what is accepted", x, x.look(2) - 1, 2, 0, 2, 2, 2, 6, 1);
        SlotPaxos y = new SlotPaxos(3, 2);
        Drive.learn(y, 1, 5);
        Drive.lead(y, 2, 7);
        Drive.bring(y, Drive.PREPARE, 2, 0);
        check.message("of slot INDEX + 1, without", y, y.look(2) - 1, 2, 0, 2, 2, 2, 0, 0);
    }
}
