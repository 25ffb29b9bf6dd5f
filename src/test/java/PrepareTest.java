/** Promise 4: what a PREPARE does. */
public final class PrepareTest {
    private static final Check check = new Check();

    public static void main(String[] args) {
        isPromised();
        isPromisedAgain();
        isDenied();
        tellsWhatIsAccepted();
        tellsNothingOfALaterSlot();
        endsARole();
        helpsOneThatLags();
        check.end();
    }

    private static void isPromised() {
        SlotPaxos x = new SlotPaxos(3, 2);
        x.request(1, 5);
        x.tick(1);
        check.same("deliver", x.deliver(0), 1);
        check.message("promise", x, 1, 2, 0, 1, 1, 1, 0, 0);
        int[] due = {1, 0, 0, 0, 1, -1, 0, 0, 0, 0, 1, 0, 0};
        check.replica("promised", x, 0, due);
    }

    private static void isPromisedAgain() {
        SlotPaxos x = new SlotPaxos(3, 2);
        x.request(1, 5);
        x.tick(1);
        x.twice(0);
        x.deliver(0);
        x.deliver(1);
        check.inFlight("two promises and a prepare", x, 3);
        check.message("the second promise", x, 2, 2, 0, 1, 1, 1, 0, 0);
    }

    private static void isDenied() {
        SlotPaxos x = new SlotPaxos(3, 2);
        x.request(2, 5);
        x.tick(2);
        Drive.bring(x, Drive.PREPARE, 2, 0);
        Drive.loseAll(x);
        x.request(1, 6);
        x.tick(1);
        Drive.bring(x, Drive.PREPARE, 1, 0);
        check.message("deny", x, 1, 7, 0, 1, 2, 0, 0, 0);
        check.replica("denied", x, 0, 4, 2);
        // A candidate that denies goes on.
        Drive.bring(x, Drive.PREPARE, 1, 2);
        check.message("deny of a candidate", x, 1, 7, 2, 1, 2, 0, 0, 0);
        check.replica("still candidate", x, 2, 7, 1);
    }

    private static void tellsWhatIsAccepted() {
        SlotPaxos x = new SlotPaxos(3, 2);
        Drive.lead(x, 1, 5, 2);
        Drive.acceptAt(x, 1, 0);
        x.request(2, 6);
        x.tick(2);
        check.replica("its ballot", x, 2, 8, 2);
        Drive.bring(x, Drive.PREPARE, 2, 0);
        check.message("promise with what is accepted", x, 1, 2, 0, 2, 2, 1, 5, 1);
        check.replica("still accepted", x, 0, 5, 1);
        check.replica("still accepted", x, 0, 6, 5);
    }

    private static void tellsNothingOfALaterSlot() {
        SlotPaxos x = new SlotPaxos(3, 2);
        Drive.lead(x, 1, 5, 2);
        Drive.bring(x, Drive.ACCEPT, 1, 0);
        Drive.bring(x, Drive.ACCEPTED, 0, 1);
        Drive.bring(x, Drive.CHOSEN, 1, 2);
        Drive.loseAll(x);
        x.request(2, 6);
        x.tick(2);
        Drive.bring(x, Drive.PREPARE, 2, 0);
        check.message("promise for slot 2 at INDEX 0", x, 1, 2, 0, 2, 2, 2, 0, 0);
        check.replica("promised", x, 0, 4, 2);
        check.replica("still accepted for slot 1", x, 0, 6, 5);
    }

    private static void endsARole() {
        SlotPaxos x = new SlotPaxos(3, 2);
        Drive.lead(x, 1, 5, 2);
        Drive.loseAll(x);
        x.request(0, 6);
        x.tick(0);
        x.request(2, 7);
        x.tick(2);
        check.replica("a candidate", x, 2, 7, 1);
        Drive.bring(x, Drive.PREPARE, 0, 1);
        int[] due = {1, 0, 0, 0, 3, 1, 5, 0, 0, 0, 3, 1, 0};
        check.replica("a leader becomes follower", x, 1, due);
        x.tick(1);
        check.replica("candidate", x, 1, 8, 4);
        Drive.bring(x, Drive.PREPARE, 1, 0);
        int[] follower = {1, 0, 0, 0, 4, -1, 0, 0, 0, 0, 4, 1, 0};
        check.replica("a candidate becomes follower", x, 0, follower);
    }

    private static void helpsOneThatLags() {
        SlotPaxos x = new SlotPaxos(3, 1);
        x.turn(0, false);
        Drive.learn(x, 1, 5);
        x.turn(0, true);
        x.request(0, 6);
        x.tick(0);
        Drive.bring(x, Drive.PREPARE, 0, 1);
        check.message("the number of the slot", x, 1, 5, 1, 0, 0, 1, 5, 0);
        check.replica("a leader that helps", x, 1, 7, 2);
        check.replica("PROMISED of one that helps", x, 1, 4, 1);
        check.replica("SEEN of one that helps", x, 1, 10, 3);
        Drive.loseAll(x);
        x.turn(0, false);
        Drive.learn(x, 1, 7);
        x.turn(0, true);
        x.request(0, 6);
        x.tick(0);
        Drive.bring(x, Drive.PREPARE, 0, 1);
        check.message("the state, for slot 1 is not kept", x, 1, 8, 1, 0, 0, 2, 31 * 5 + 7, 0);
    }
}
