/** Promise 4: which message comes, and to whom; what the kinds do is tested kind by kind. */
public final class DeliverTest {
    private static final Check check = new Check();

    public static void main(String[] args) {
        refusesWrongPlaces();
        takesOutTheMessage();
        isGoneWhenTheReceiverIsDown();
        answersWhenThereWere200();
        tellsTheBallot();
        takesEachPlaceAndNoOther();
        seesTheGreatestBallot();
        seesNothingInAMessageWithoutABallot();
        check.end();
    }

    private static void refusesWrongPlaces() {
        SlotPaxos x = new SlotPaxos(3, 2);
        check.same("deliver(0) of none", x.deliver(0), -1);
        x.tick(0);
        for (int i : new int[] {-1, 1, 199, 200, Integer.MIN_VALUE, Integer.MAX_VALUE}) {
            check.same("deliver(" + i + ")", x.deliver(i), -1);
        }
        check.inFlight("refused", x, 1);
    }

    private static void takesOutTheMessage() {
        SlotPaxos x = new SlotPaxos(5, 2);
        for (int r = 0; r < 5; r++) {
            x.tick(r);
        }
        check.same("deliver(2)", x.deliver(2), 6);
        check.inFlight("one less", x, 4);
        int[] left = {0, 1, 3, 4};
        for (int i = 0; i < 4; i++) {
            check.same("sender of " + i, x.message(i, 1), left[i]);
        }
        check.same("the last", x.deliver(3), 6);
        check.same("the last is no more", x.deliver(3), -1);
    }

    private static void isGoneWhenTheReceiverIsDown() {
        SlotPaxos x = new SlotPaxos(3, 2);
        x.request(0, 5);
        x.tick(0);
        x.turn(1, false);
        check.same("deliver to one that is down", x.deliver(0), 1);
        check.inFlight("gone, without an answer", x, 1);
        check.replica("gone", x, 1, 4, 0);
        x.turn(1, true);
        check.replica("gone", x, 1, 4, 0);
        check.replica("gone", x, 1, 10, 0);
        check.same("to one that is up", x.deliver(0), 1);
        check.replica("come", x, 2, 4, 3);
    }

    private static void answersWhenThereWere200() {
        SlotPaxos x = new SlotPaxos(5, 2);
        x.request(4, 5);
        for (int i = 0; i < 50; i++) {
            x.tick(4);
        }
        check.inFlight("50 times 4", x, 200);
        check.same("deliver(0)", x.deliver(0), 1);
        check.inFlight("the answer is in its place", x, 200);
        check.message("the answer", x, 199, 2, 0, 4, 4, 1, 0, 0);
        check.same("none was lost", x.look(4), 0);
    }

    private static void tellsTheBallot() {
        SlotPaxos x = new SlotPaxos(3, 2);
        x.request(2, 5);
        x.tick(2);
        check.replica("its own ballot", x, 2, 10, 0);
        x.deliver(0);
        check.replica("SEEN by a prepare", x, 0, 10, 2);
        Drive.bring(x, Drive.PROMISE, 0, 2);
        check.replica("SEEN by a promise", x, 2, 10, 2);
        x.request(1, 5);
        x.tick(1);
        Drive.bring(x, Drive.PREPARE, 1, 0);
        check.replica("a lesser one is not SEEN", x, 0, 10, 2);
        Drive.bring(x, Drive.DENY, 0, 1);
        check.replica("SEEN by a deny", x, 1, 10, 2);
    }

    /** "Message i in FLIGHT, from 0 on ...; NONE if there is none such". */
    private static void takesEachPlaceAndNoOther() {
        check.same("deliver(-1)", Stories.inFlight(200).deliver(-1), -1);
        check.same("deliver(0)", Stories.inFlight(200).deliver(0), 1);
        check.same("deliver(199) of 200", Stories.inFlight(200).deliver(199), 1);
        check.same("deliver(200) of 200", Stories.inFlight(200).deliver(200), -1);
        check.same("deliver(199) of 199", Stories.inFlight(199).deliver(199), -1);
        check.same("deliver(198) of 199", Stories.inFlight(199).deliver(198), 6);
    }

    /** "SEEN is b, if that is greater": less, the same, greater. */
    private static void seesTheGreatestBallot() {
        for (int ballot = 1; ballot <= 3; ballot++) {
            SlotPaxos x = new SlotPaxos(5, 2);
            for (int r = 1; r <= 3; r++) {
                Drive.lead(x, r, 10 + r);
            }
            x.twice(Drive.place(x, Drive.PREPARE, 2, 4));
            Drive.bring(x, Drive.PREPARE, 2, 4);
            check.replica("SEEN", x, 4, 10, 2);
            Drive.bring(x, Drive.PREPARE, ballot, 4);
            check.replica("SEEN behind " + ballot, x, 4, 10, Math.max(2, ballot));
        }
    }

    private static void seesNothingInAMessageWithoutABallot() {
        for (int kind : new int[] {Drive.CHOSEN, Drive.ASK, Drive.STATE}) {
            SlotPaxos x = Stories.withKind(kind);
            int last = x.look(2) - 1;
            int to = x.message(last, 2);
            int seen = x.replica(to, 10);
            x.deliver(last);
            check.replica("SEEN behind kind " + kind, x, to, 10, seen);
        }
    }
}
