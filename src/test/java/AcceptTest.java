/** Promise 4: what an ACCEPT does. */
public final class AcceptTest {
    private static final Check check = new Check();

    public static void main(String[] args) {
        isAccepted();
        isAcceptedAgain();
        isAcceptedWithoutAPromise();
        isDenied();
        endsARole();
        asksWhenItLags();
        helpsOneThatLags();
        isMeasuredByPromised();
        isMeasuredByACandidate();
        isMeasuredByALeader();
        isMeasuredByIndex();
        check.end();
    }

    private static void isAccepted() {
        SlotPaxos x = new SlotPaxos(3, 2);
        Drive.lead(x, 1, 5, 2);
        Drive.bring(x, Drive.ACCEPT, 1, 2);
        check.message("accepted", x, x.look(2) - 1, 4, 2, 1, 1, 1, 0, 0);
        int[] due = {1, 0, 0, 0, 1, 1, 5, 0, 0, 0, 1, 0, 0};
        check.replica("accepted", x, 2, due);
    }

    private static void isAcceptedAgain() {
        SlotPaxos x = new SlotPaxos(3, 2);
        Drive.lead(x, 1, 5, 2);
        x.twice(Drive.place(x, Drive.ACCEPT, 1, 2));
        Drive.bring(x, Drive.ACCEPT, 1, 2);
        Drive.bring(x, Drive.ACCEPT, 1, 2);
        check.message("accepted again", x, x.look(2) - 1, 4, 2, 1, 1, 1, 0, 0);
        check.message("accepted at first", x, x.look(2) - 2, 4, 2, 1, 1, 1, 0, 0);
    }

    private static void isAcceptedWithoutAPromise() {
        SlotPaxos x = new SlotPaxos(3, 2);
        Drive.lead(x, 1, 5, 2);
        Drive.bring(x, Drive.ACCEPT, 1, 0);
        check.replica("PROMISED by an accept", x, 0, 4, 1);
        check.replica("SEEN by an accept", x, 0, 10, 1);
        check.replica("accepted", x, 0, 6, 5);
    }

    private static void isDenied() {
        SlotPaxos x = new SlotPaxos(3, 2);
        Drive.lead(x, 1, 5, 2);
        x.request(2, 6);
        x.tick(2);
        Drive.bring(x, Drive.PREPARE, 2, 0);
        Drive.bring(x, Drive.ACCEPT, 1, 0);
        check.message("deny", x, x.look(2) - 1, 7, 0, 1, 2, 0, 0, 0);
        check.replica("denied", x, 0, 5, -1);
        check.replica("denied", x, 0, 4, 2);
        Drive.bring(x, Drive.ACCEPT, 1, 2);
        check.message("deny of a candidate", x, x.look(2) - 1, 7, 2, 1, 2, 0, 0, 0);
        check.replica("a candidate that denies", x, 2, 7, 1);
    }

    private static void endsARole() {
        SlotPaxos x = new SlotPaxos(3, 2);
        x.request(1, 5);
        x.tick(1);
        Drive.lead(x, 2, 6, 0);
        Drive.bring(x, Drive.ACCEPT, 2, 1);
        int[] due = {1, 0, 0, 0, 2, 2, 6, 0, 0, 0, 2, 1, 0};
        check.replica("a candidate becomes follower", x, 1, due);
        Drive.loseAll(x);

        SlotPaxos y = new SlotPaxos(3, 2);
        Drive.lead(y, 1, 5, 0);
        Drive.loseAll(y);
        Drive.lead(y, 2, 6, 0);
        check.replica("two leaders", y, 1, 7, 2);
        check.replica("two leaders", y, 2, 7, 2);
        Drive.bring(y, Drive.ACCEPT, 2, 1);
        check.replica("a leader becomes follower", y, 1, due);
    }

    private static void asksWhenItLags() {
        SlotPaxos x = new SlotPaxos(3, 2);
        x.turn(0, false);
        Drive.learn(x, 1, 5);
        x.turn(0, true);
        x.request(1, 6);
        x.tick(1);
        Drive.bring(x, Drive.ACCEPT, 1, 0);
        check.message("ask", x, x.look(2) - 1, 6, 0, 1, 0, 1, 0, 0);
        check.replica("not promised", x, 0, 4, 0);
        check.replica("seen", x, 0, 10, 1);
        check.replica("not accepted", x, 0, 5, -1);
    }

    private static void helpsOneThatLags() {
        SlotPaxos x = new SlotPaxos(3, 1);
        Drive.lead(x, 1, 5, 2);
        int late = Drive.place(x, Drive.ACCEPT, 1, 2);
        x.twice(late);
        x.twice(late);
        Drive.bring(x, Drive.ACCEPT, 1, 2);
        Drive.bring(x, Drive.ACCEPTED, 2, 1);
        Drive.bring(x, Drive.CHOSEN, 1, 2);
        Drive.bring(x, Drive.ACCEPT, 1, 2);
        check.message("the number of the slot", x, x.look(2) - 1, 5, 2, 1, 0, 1, 5, 0);
        x.request(1, 6);
        x.tick(1);
        // The last accept is that of slot 2; it is brought ahead of the one of slot 1 that is late.
        x.deliver(x.look(2) - 1);
        check.same("accepted for slot 2", x.message(x.look(2) - 1, 4), 2);
        Drive.bring(x, Drive.ACCEPTED, 2, 1);
        x.deliver(x.look(2) - 1);
        check.replica("INDEX 2", x, 2, 1, 2);
        Drive.bring(x, Drive.ACCEPT, 1, 2);
        check.message("the state, for slot 1 is not kept", x, x.look(2) - 1, 8, 2, 1, 0, 2, 31 * 5 + 6, 0);
    }

    /** Replicas 1, 2 and 3 of 5 campaign with 1, 2 and 3; 2 leads, and its accept of 12 is in flight to all. */
    private static SlotPaxos secondLeads() {
        SlotPaxos x = new SlotPaxos(5, 2);
        Drive.lead(x, 1, 11);
        Drive.lead(x, 3, 13);
        Drive.lead(x, 2, 12, 0, 1);
        return x;
    }

    /** "if b is not below PROMISED ... Else DENY with PROMISED goes to q": PROMISED is below, the same, above. */
    private static void isMeasuredByPromised() {
        for (int promised = 0; promised <= 3; promised++) {
            SlotPaxos x = secondLeads();
            if (promised > 0) {
                Drive.bring(x, Drive.PREPARE, promised, 4);
            }
            check.replica("PROMISED", x, 4, 4, promised);
            Drive.bring(x, Drive.ACCEPT, 2, 4);
            int last = x.look(2) - 1;
            if (promised > 2) {
                check.message("below PROMISED", x, last, 7, 4, 2, promised, 0, 0, 0);
                int[] due = {1, 0, 0, 0, promised, -1, 0, 0, 0, 0, promised, 0, 0};
                check.replica("below PROMISED", x, 4, due);
            } else {
                check.message("not below PROMISED", x, last, 4, 4, 2, 2, 1, 0, 0);
                int[] due = {1, 0, 0, 0, 2, 2, 12, 0, 0, 0, 2, 0, 0};
                check.replica("not below PROMISED", x, 4, due);
            }
        }
    }

    /** "a CANDIDATE ... becomes FOLLOWER": one of a lesser ballot does, one of a greater ballot denies. */
    private static void isMeasuredByACandidate() {
        SlotPaxos x = secondLeads();
        Drive.bring(x, Drive.ACCEPT, 2, 3);
        check.message("to a candidate of 3", x, x.look(2) - 1, 7, 3, 2, 3, 0, 0, 0);
        int[] candidate = {1, 0, 0, 0, 3, -1, 0, 1, 3, 8, 2, 1, 0};
        check.replica("a candidate of 3", x, 3, candidate);

        SlotPaxos y = new SlotPaxos(5, 2);
        Drive.lead(y, 1, 11);
        Drive.lead(y, 2, 12, 0, 4);
        check.replica("a candidate of 1", y, 1, 7, 1);
        Drive.bring(y, Drive.ACCEPT, 2, 1);
        check.message("to a candidate of 1", y, y.look(2) - 1, 4, 1, 2, 2, 1, 0, 0);
        int[] follower = {1, 0, 0, 0, 2, 2, 12, 0, 0, 0, 2, 1, 0};
        check.replica("a candidate of 1", y, 1, follower);
    }

    /** "or a LEADER of another BALLOT, becomes FOLLOWER": of a lesser one it does, of a greater one it denies. */
    private static void isMeasuredByALeader() {
        SlotPaxos x = secondLeads();
        for (int other : new int[] {0, 4}) {
            Drive.bring(x, Drive.PREPARE, 3, other);
            Drive.bring(x, Drive.PROMISE, other, 3);
        }
        check.replica("two leaders", x, 2, 7, 2);
        check.replica("two leaders", x, 3, 7, 2);
        Drive.bring(x, Drive.ACCEPT, 2, 3);
        check.message("to a leader of 3", x, x.look(2) - 1, 7, 3, 2, 3, 0, 0, 0);
        int[] leader = {1, 0, 0, 0, 3, 3, 13, 2, 3, 8, 3, 1, 13};
        check.replica("a leader of 3", x, 3, leader);
        Drive.bring(x, Drive.ACCEPT, 3, 2);
        check.message("to a leader of 2", x, x.look(2) - 1, 4, 2, 3, 3, 1, 0, 0);
        int[] follower = {1, 0, 0, 0, 3, 3, 13, 0, 0, 0, 3, 1, 0};
        check.replica("a leader of 2", x, 2, follower);
    }

    /** "s up to INDEX: HELP q with s. Else if s is above INDEX + 1: ASK with slot INDEX + 1 goes to q". */
    private static void isMeasuredByIndex() {
        for (int index = 0; index <= 3; index++) {
            SlotPaxos x = new SlotPaxos(3, 4);
            for (int slot = 1; slot <= 2; slot++) {
                if (slot == index + 1) {
                    x.turn(2, false);
                }
                Drive.learn(x, 1, 4 + slot);
            }
            x.turn(2, true);
            x.request(1, 7);
            x.tick(1);
            if (index == 3) {
                Drive.bring(x, Drive.ACCEPT, 1, 0);
                Drive.bring(x, Drive.ACCEPTED, 0, 1);
                Drive.bring(x, Drive.CHOSEN, 1, 2);
            }
            check.replica("INDEX", x, 2, 1, index);
            int promised = x.replica(2, 4);
            Drive.bring(x, Drive.ACCEPT, 1, 2);
            int last = x.look(2) - 1;
            if (index < 2) {
                check.message("slot 3 at INDEX " + index, x, last, 6, 2, 1, 0, index + 1, 0, 0);
            } else if (index == 2) {
                check.message("slot 3 at INDEX 2", x, last, 4, 2, 1, 1, 3, 0, 0);
            } else {
                check.message("slot 3 at INDEX 3", x, last, 5, 2, 1, 0, 3, 7, 0);
            }
            check.replica("what is accepted", x, 2, 6, index == 2 ? 7 : 0);
            check.replica("what is promised", x, 2, 4, promised);
            check.replica("what is seen", x, 2, 10, 1);
        }
    }
}
