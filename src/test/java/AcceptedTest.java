/** Promise 4: what an ACCEPTED does, and how a leader learns. */
public final class AcceptedTest {
    private static final Check check = new Check();

    public static void main(String[] args) {
        learnsWithMoreThanHalf();
        proposesTheNext();
        countsNobodyTwice();
        countsOnlyItsBallotAndSlot();
        dropsAllThatAreTheNumber();
        doesNothingToACandidate();
        learnsOfAKeptNumber();
        check.end();
    }

    private static void learnsWithMoreThanHalf() {
        int[] needed = {0, 0, 0, 1, 2, 2};
        for (int n = 3; n <= 5; n++) {
            SlotPaxos x = new SlotPaxos(n, 2);
            x.request(0, 7);
            x.tick(0);
            for (int other = 1; other <= needed[n]; other++) {
                Drive.bring(x, Drive.PREPARE, 0, other);
                Drive.bring(x, Drive.PROMISE, other, 0);
            }
            for (int other = 1; other <= needed[n]; other++) {
                check.replica("not yet learned of " + n, x, 0, 1, 0);
                check.replica("who has answered of " + n, x, 0, 9, (1 << other) - 1);
                Drive.bring(x, Drive.ACCEPT, 0, other);
                Drive.bring(x, Drive.ACCEPTED, other, 0);
            }
            int[] due = {1, 1, 7, 0, n, -1, 0, 2, n, 0, n, 0, 0};
            check.replica("learned of " + n, x, 0, due);
            check.same("slot(0, 1)", x.slot(0, 1), 7);
            for (int to = 1; to < n; to++) {
                check.message("chosen", x, x.look(2) - n + to, 5, 0, to, 0, 1, 7, 0);
            }
        }
    }

    private static void proposesTheNext() {
        SlotPaxos x = new SlotPaxos(3, 2);
        x.request(1, 5);
        x.request(1, 6);
        x.request(1, 5);
        x.request(1, 8);
        x.tick(1);
        Drive.bring(x, Drive.PREPARE, 1, 0);
        Drive.bring(x, Drive.PROMISE, 0, 1);
        Drive.acceptAt(x, 1, 0);
        x.tick(1);
        Drive.bring(x, Drive.ACCEPT, 1, 0);
        Drive.bring(x, Drive.ACCEPTED, 0, 1);
        check.inFlight("an accept, two chosen, two accepts", x, 5);
        check.message("chosen", x, 1, 5, 1, 0, 0, 1, 5, 0);
        check.message("chosen", x, 2, 5, 1, 2, 0, 1, 5, 0);
        check.message("accept", x, 3, 3, 1, 0, 1, 2, 6, 0);
        check.message("accept", x, 4, 3, 1, 2, 1, 2, 6, 0);
        int[] due = {1, 1, 5, 0, 1, 1, 6, 2, 1, 2, 1, 2, 6};
        check.replica("the next is proposed", x, 1, due);
    }

    private static void countsNobodyTwice() {
        SlotPaxos x = new SlotPaxos(5, 2);
        Drive.lead(x, 0, 7, 1, 2);
        Drive.bring(x, Drive.ACCEPT, 0, 4);
        x.twice(Drive.place(x, Drive.ACCEPTED, 4, 0));
        Drive.bring(x, Drive.ACCEPTED, 4, 0);
        Drive.bring(x, Drive.ACCEPTED, 4, 0);
        check.replica("the same twice", x, 0, 9, 17);
        check.replica("the same twice", x, 0, 1, 0);
    }

    private static void countsOnlyItsBallotAndSlot() {
        SlotPaxos x = new SlotPaxos(3, 2);
        Drive.lead(x, 1, 5, 0);
        Drive.bring(x, Drive.ACCEPT, 1, 0);
        x.twice(Drive.place(x, Drive.ACCEPTED, 0, 1));
        Drive.bring(x, Drive.ACCEPTED, 0, 1);
        x.request(1, 6);
        x.tick(1);
        Drive.bring(x, Drive.ACCEPTED, 0, 1);
        check.replica("accepted for an earlier slot", x, 1, 1, 1);
        check.replica("accepted for an earlier slot", x, 1, 9, 2);

        SlotPaxos y = new SlotPaxos(3, 2);
        Drive.lead(y, 1, 5, 0);
        Drive.bring(y, Drive.ACCEPT, 1, 0);
        y.turn(1, false);
        y.turn(1, true);
        y.twice(Drive.place(y, Drive.ACCEPTED, 0, 1));
        Drive.bring(y, Drive.ACCEPTED, 0, 1);
        check.replica("accepted to a follower", y, 1, 1, 0);
        Drive.lead(y, 1, 6, 0);
        check.replica("leader of a later ballot", y, 1, 8, 4);
        Drive.bring(y, Drive.ACCEPTED, 0, 1);
        check.replica("accepted of an earlier ballot", y, 1, 1, 0);
        check.replica("accepted of an earlier ballot", y, 1, 9, 2);

        SlotPaxos z = new SlotPaxos(3, 2);
        Drive.lead(z, 1, 5, 0);
        Drive.bring(z, Drive.ACCEPT, 1, 0);
        Drive.bring(z, Drive.ACCEPT, 1, 2);
        Drive.bring(z, Drive.ACCEPTED, 0, 1);
        int sent = z.look(3);
        Drive.bring(z, Drive.ACCEPTED, 2, 1);
        check.replica("accepted late", z, 1, 1, 1);
        check.replica("accepted late", z, 1, 9, 0);
        check.same("accepted late: look(3)", z.look(3), sent);
    }

    private static void dropsAllThatAreTheNumber() {
        SlotPaxos x = new SlotPaxos(3, 2);
        for (int number : new int[] {5, 6, 5, 5, 7, 5}) {
            x.request(1, number);
        }
        x.request(0, 5);
        x.request(0, 9);
        x.tick(1);
        Drive.bring(x, Drive.PREPARE, 1, 2);
        Drive.bring(x, Drive.PROMISE, 2, 1);
        Drive.bring(x, Drive.ACCEPT, 1, 2);
        Drive.bring(x, Drive.ACCEPTED, 2, 1);
        check.replica("all 5 are gone", x, 1, 11, 2);
        check.same("waiting(1, 0)", x.waiting(1, 0), 6);
        check.same("waiting(1, 1)", x.waiting(1, 1), 7);
        check.same("waiting(1, 2)", x.waiting(1, 2), 0);
        check.replica("those of another replica wait until it learns", x, 0, 11, 2);
        Drive.bring(x, Drive.CHOSEN, 1, 0);
        check.replica("and go then", x, 0, 11, 1);
        check.same("waiting(0, 0)", x.waiting(0, 0), 9);
    }

    /** "if it is LEADER of b": to a candidate, which has campaigned anew, an accepted of before is nothing. */
    private static void doesNothingToACandidate() {
        SlotPaxos x = Stories.withKind(Drive.ACCEPTED);
        int last = x.look(2) - 1;
        Drive.restart(x, 1);
        x.request(1, 6);
        x.tick(1);
        int sent = x.look(3);
        check.same("deliver", x.deliver(last), 4);
        int[] due = {1, 0, 0, 0, 4, 1, 5, 1, 4, 2, 1, 1, 0};
        check.replica("a candidate", x, 1, due);
        check.same("nothing is sent", x.look(3), sent);
    }

    /** What a leader was told by promises, and not its own, is learned; its own waits, and is proposed next. */
    private static void learnsOfAKeptNumber() {
        SlotPaxos x = new SlotPaxos(3, 2);
        Drive.lead(x, 1, 5, 0);
        Drive.acceptAt(x, 1, 0);
        Drive.lead(x, 2, 6, 0);
        check.replica("what is proposed", x, 2, 12, 5);
        Drive.bring(x, Drive.ACCEPT, 2, 0);
        Drive.bring(x, Drive.ACCEPTED, 0, 2);
        int[] due = {1, 1, 5, 0, 2, 2, 6, 2, 2, 4, 2, 1, 6};
        check.replica("learned, and its own is proposed", x, 2, due);
    }
}
