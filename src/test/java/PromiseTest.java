/** Promise 4: what a PROMISE does. */
public final class PromiseTest {
    private static final Check check = new Check();

    public static void main(String[] args) {
        leadsWithMoreThanHalf();
        countsNobodyTwice();
        countsOnlyItsBallot();
        takesTheGreatestAccepted();
        takesItsOwnAccepted();
        leadsOnWithoutANumber();
        keepsNothingOfLesserBallots();
        takesItsOwnAlone();
        doesNothingToAFollowerOrLeader();
        check.end();
    }

    private static void leadsWithMoreThanHalf() {
        int[] needed = {0, 0, 0, 1, 2, 2};
        for (int n = 3; n <= 5; n++) {
            SlotPaxos x = new SlotPaxos(n, 2);
            x.request(0, 7);
            x.request(0, 8);
            x.tick(0);
            for (int other = 1; other <= needed[n]; other++) {
                check.replica("not yet leader of " + n, x, 0, 7, 1);
                check.replica("who has answered of " + n, x, 0, 9, (1 << other) - 1);
                Drive.bring(x, Drive.PREPARE, 0, other);
                Drive.bring(x, Drive.PROMISE, other, 0);
            }
            int[] due = {1, 0, 0, 0, n, n, 7, 2, n, 1, n, 2, 7};
            check.replica("leader of " + n, x, 0, due);
            int left = n - 1 - needed[n];
            check.inFlight("prepares that are left, and accepts", x, left + n - 1);
            for (int to = 1; to < n; to++) {
                check.message("accept", x, left + to - 1, 3, 0, to, n, 1, 7, 0);
            }
            // What is promised late changes nothing.
            Drive.bring(x, Drive.PREPARE, 0, n - 1);
            Drive.bring(x, Drive.PROMISE, n - 1, 0);
            check.replica("a late promise", x, 0, 9, 1);
        }
    }

    private static void countsNobodyTwice() {
        SlotPaxos x = new SlotPaxos(5, 2);
        x.request(0, 7);
        x.tick(0);
        Drive.bring(x, Drive.PREPARE, 0, 3);
        x.twice(Drive.place(x, Drive.PROMISE, 3, 0));
        Drive.bring(x, Drive.PROMISE, 3, 0);
        Drive.bring(x, Drive.PROMISE, 3, 0);
        check.replica("the same promise twice", x, 0, 9, 9);
        check.replica("the same promise twice", x, 0, 7, 1);
    }

    private static void countsOnlyItsBallot() {
        SlotPaxos x = new SlotPaxos(3, 2);
        x.request(0, 7);
        x.tick(0);
        Drive.bring(x, Drive.PREPARE, 0, 1);
        check.message("promise", x, 1, 2, 1, 0, 3, 1, 0, 0);
        x.turn(0, false);
        x.turn(0, true);
        Drive.bring(x, Drive.PROMISE, 1, 0);
        check.replica("a promise to a follower", x, 0, 7, 0);
        Drive.loseAll(x);

        x.request(0, 7);
        x.tick(0);
        Drive.bring(x, Drive.PREPARE, 0, 1);
        x.turn(0, false);
        x.turn(0, true);
        x.request(0, 7);
        x.tick(0);
        check.replica("a later ballot", x, 0, 8, 9);
        Drive.bring(x, Drive.PROMISE, 1, 0);
        check.replica("a promise of an earlier ballot", x, 0, 7, 1);
        check.replica("a promise of an earlier ballot", x, 0, 9, 1);
    }

    private static void takesTheGreatestAccepted() {
        for (int first = 1; first <= 2; first++) {
            SlotPaxos x = new SlotPaxos(5, 2);
            Drive.lead(x, 3, 5, 0, 4);
            Drive.acceptAt(x, 3, 1);
            Drive.lead(x, 4, 6, 0, 2);
            Drive.acceptAt(x, 4, 2);
            check.replica("two accepted ones", x, 1, 5, 3);
            check.replica("two accepted ones", x, 2, 5, 4);
            Drive.lead(x, 0, 7, first, 3 - first);
            check.replica("what is proposed", x, 0, 12, 6);
            check.replica("it is accepted with its own ballot", x, 0, 5, 5);
            check.replica("it is accepted with its own ballot", x, 0, 6, 6);
            check.replica("it alone has answered", x, 0, 9, 1);
            check.same("its own number waits", x.waiting(0, 0), 7);
            check.message("accept", x, x.look(2) - 1, 3, 0, 4, 5, 1, 6, 0);
        }
    }

    private static void takesItsOwnAccepted() {
        SlotPaxos x = new SlotPaxos(5, 2);
        Drive.lead(x, 3, 5, 0, 4);
        Drive.acceptAt(x, 3, 1);
        Drive.lead(x, 4, 6, 0, 2);
        Drive.loseAll(x);
        // Replica 4 has accepted 6 with 4, replica 1 has accepted 5 with 3.
        x.turn(4, false);
        x.turn(4, true);
        Drive.lead(x, 4, 8, 1, 2);
        check.replica("its own has the greatest ballot", x, 4, 8, 9);
        check.replica("its own has the greatest ballot", x, 4, 12, 6);
    }

    private static void leadsOnWithoutANumber() {
        SlotPaxos x = new SlotPaxos(3, 2);
        // One that campaigns has a number, and no candidate loses its numbers: the only leader without
        // one is that which has learned its last.
        Drive.lead(x, 1, 5, 0);
        Drive.bring(x, Drive.ACCEPT, 1, 0);
        Drive.bring(x, Drive.ACCEPTED, 0, 1);
        check.replica("leader", x, 1, 7, 2);
        check.replica("of its ballot", x, 1, 8, 1);
        check.replica("nothing is proposed", x, 1, 12, 0);
        check.replica("nobody has answered", x, 1, 9, 0);
        check.replica("nothing is accepted", x, 1, 5, -1);
    }

    /** "of all ACCEPTED ones that were told (its own, too) it keeps the one with the greatest BALLOT": its own is less. */
    private static void keepsNothingOfLesserBallots() {
        SlotPaxos x = new SlotPaxos(5, 2);
        Drive.lead(x, 1, 11, 0, 4);
        Drive.loseAll(x);
        Drive.lead(x, 2, 12, 0, 4);
        Drive.loseAll(x);
        // Replica 1 has accepted 11 with 1, replica 2 has accepted 12 with 2.
        Drive.restart(x, 1);
        Drive.lead(x, 1, 13, 3, 2);
        int[] due = {1, 0, 0, 0, 6, 6, 12, 2, 6, 2, 6, 1, 12};
        check.replica("what it was told is greater", x, 1, due);
        check.same("its own waits", x.waiting(1, 0), 13);
    }

    /** "it alone has answered, with its ACCEPTED one": the others have accepted nothing. */
    private static void takesItsOwnAlone() {
        SlotPaxos x = new SlotPaxos(3, 2);
        Drive.lead(x, 1, 11, 0);
        Drive.restart(x, 1);
        Drive.loseAll(x);
        Drive.lead(x, 1, 13, 2);
        int[] due = {1, 0, 0, 0, 4, 4, 11, 2, 4, 2, 4, 1, 11};
        check.replica("its own is proposed again", x, 1, due);
        check.message("accept", x, x.look(2) - 1, 3, 1, 2, 4, 1, 11, 0);
    }

    /** "if it is CANDIDATE of b": to a follower it only tells the ballot, to a leader of b nothing new. */
    private static void doesNothingToAFollowerOrLeader() {
        SlotPaxos x = Stories.withKind(Drive.PROMISE);
        int last = x.look(2) - 1;
        x.twice(last);
        Drive.restart(x, 1);
        x.deliver(last);
        int[] follower = {1, 0, 0, 0, 1, -1, 0, 0, 0, 0, 1, 0, 0};
        check.replica("a follower", x, 1, follower);
        SlotPaxos z = Stories.withKind(Drive.PROMISE);
        z.twice(last);
        z.deliver(last);
        check.replica("a leader", z, 1, 7, 2);
        int sent = z.look(3);
        z.deliver(last);
        int[] leader = {1, 0, 0, 0, 1, 1, 5, 2, 1, 2, 1, 1, 5};
        check.replica("a leader", z, 1, leader);
        check.same("nothing is sent", z.look(3), sent);
    }
}
