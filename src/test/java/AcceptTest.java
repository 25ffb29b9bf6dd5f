/** Promise 4: what an ACCEPT does. */
public final class AcceptTest {
    private static final Check check = new Check();

    public static void main(String[] args) {
        isAccepted();
        isAcceptedAgain();
        isAcceptedWithoutAPromise();
        isDenied();
        endsARole();
        asksWhenItLags();
        helpsOneThatLags();
        check.end();
    }

    private static void isAccepted() {
        SlotPaxos x = new SlotPaxos(3, 2);
        Drive.lead(x, 1, 5, 2);
        Drive.bring(x, Drive.ACCEPT, 1, 2);
        check.message("accepted", x, x.look(2) - 1, 4, 2, 1, 1, 1, 0, 0);
        int[] due = {1, 0, 0, 0, 1, 1, 5, 0, 0, 0, 1, 0, 0};
        check.replica("accepted", x, 2, due);
    }

    private static void isAcceptedAgain() {
        SlotPaxos x = new SlotPaxos(3, 2);
        Drive.lead(x, 1, 5, 2);
        x.twice(Drive.place(x, Drive.ACCEPT, 1, 2));
        Drive.bring(x, Drive.ACCEPT, 1, 2);
        Drive.bring(x, Drive.ACCEPT, 1, 2);
        check.message("accepted again", x, x.look(2) - 1, 4, 2, 1, 1, 1, 0, 0);
        check.message("accepted at first", x, x.look(2) - 2, 4, 2, 1, 1, 1, 0, 0);
    }

    private static void isAcceptedWithoutAPromise() {
        SlotPaxos x = new SlotPaxos(3, 2);
        Drive.lead(x, 1, 5, 2);
        Drive.bring(x, Drive.ACCEPT, 1, 0);
        check.replica("PROMISED by an accept", x, 0, 4, 1);
        check.replica("SEEN by an accept", x, 0, 10, 1);
        check.replica("accepted", x, 0, 6, 5);
    }

    private static void isDenied() {
        SlotPaxos x = new SlotPaxos(3, 2);
        Drive.lead(x, 1, 5, 2);
        x.request(2, 6);
        x.tick(2);
        Drive.bring(x, Drive.PREPARE, 2, 0);
        Drive.bring(x, Drive.ACCEPT, 1, 0);
        check.message("deny", x, x.look(2) - 1, 7, 0, 1, 2, 0, 0, 0);
        check.replica("denied", x, 0, 5, -1);
        check.replica("denied", x, 0, 4, 2);
        Drive.bring(x, Drive.ACCEPT, 1, 2);
        check.message("deny of a candidate", x, x.look(2) - 1, 7, 2, 1, 2, 0, 0, 0);
        check.replica("a candidate that denies", x, 2, 7, 1);
    }

    private static void endsARole() {
        SlotPaxos x = new SlotPaxos(3, 2);
        x.request(1, 5);
        x.tick(1);
        Drive.lead(x, 2, 6, 0);
        Drive.bring(x, Drive.ACCEPT, 2, 1);
        int[] due = {1, 0, 0, 0, 2, 2, 6, 0, 0, 0, 2, 1, 0};
        check.replica("a candidate becomes follower", x, 1, due);
        Drive.loseAll(x);

        SlotPaxos y = new SlotPaxos(3, 2);
        Drive.lead(y, 1, 5, 0);
        Drive.loseAll(y);
        Drive.lead(y, 2, 6, 0);
        check.replica("two leaders", y, 1, 7, 2);
        check.replica("two leaders", y, 2, 7, 2);
        Drive.bring(y, Drive.ACCEPT, 2, 1);
        check.replica("a leader becomes follower", y, 1, due);
    }

    private static void asksWhenItLags() {
        SlotPaxos x = new SlotPaxos(3, 2);
        x.turn(0, false);
        Drive.learn(x, 1, 5);
        x.turn(0, true);
        x.request(1, 6);
        x.tick(1);
        Drive.bring(x, Drive.ACCEPT, 1, 0);
        check.message("ask", x, x.look(2) - 1, 6, 0, 1, 0, 1, 0, 0);
        check.replica("not promised", x, 0, 4, 0);
        check.replica("seen", x, 0, 10, 1);
        check.replica("not accepted", x, 0, 5, -1);
    }

    private static void helpsOneThatLags() {
        SlotPaxos x = new SlotPaxos(3, 1);
        Drive.lead(x, 1, 5, 2);
        int late = Drive.place(x, Drive.ACCEPT, 1, 2);
        x.twice(late);
        x.twice(late);
        Drive.bring(x, Drive.ACCEPT, 1, 2);
        Drive.bring(x, Drive.ACCEPTED, 2, 1);
        Drive.bring(x, Drive.CHOSEN, 1, 2);
        Drive.bring(x, Drive.ACCEPT, 1, 2);
        check.message("the number of the slot", x, x.look(2) - 1, 5, 2, 1, 0, 1, 5, 0);
        x.request(1, 6);
        x.tick(1);
        // The last accept is that of slot 2; it is brought ahead of the one of slot 1 that is late.
        x.deliver(x.look(2) - 1);
        check.same("accepted for slot 2", x.message(x.look(2) - 1, 4), 2);
        Drive.bring(x, Drive.ACCEPTED, 2, 1);
        x.deliver(x.look(2) - 1);
        check.replica("INDEX 2", x, 2, 1, 2);
        Drive.bring(x, Drive.ACCEPT, 1, 2);
        check.message("the state, for slot 1 is not kept", x, x.look(2) - 1, 8, 2, 1, 0, 2, 31 * 5 + 6, 0);
    }
}
