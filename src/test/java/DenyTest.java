/** Promise 4: what a DENY does. */
public final class DenyTest {
    private static final Check check = new Check();

    public static void main(String[] args) {
        endsACandidate();
        endsALeader();
        leavesOneOfAGreaterBallot();
        leavesOneOfTheSameBallot();
        leavesALeaderOfTheSameBallot();
        endsALeaderOfTheBallotBelow();
        onlyTellsAFollower();
        check.end();
    }

    private static void endsACandidate() {
        SlotPaxos x = new SlotPaxos(3, 2);
        x.request(2, 5);
        x.tick(2);
        Drive.bring(x, Drive.PREPARE, 2, 0);
        x.request(1, 6);
        x.tick(1);
        Drive.bring(x, Drive.PREPARE, 1, 0);
        Drive.bring(x, Drive.DENY, 0, 1);
        int[] due = {1, 0, 0, 0, 1, -1, 0, 0, 0, 0, 2, 1, 0};
        check.replica("a candidate becomes follower", x, 1, due);
        x.tick(1);
        check.replica("the next ballot is above what it has seen", x, 1, 8, 4);
    }

    private static void endsALeader() {
        SlotPaxos x = new SlotPaxos(3, 2);
        Drive.lead(x, 1, 5, 0);
        x.request(2, 6);
        x.tick(2);
        Drive.bring(x, Drive.PREPARE, 2, 0);
        Drive.bring(x, Drive.ACCEPT, 1, 0);
        Drive.bring(x, Drive.DENY, 0, 1);
        int[] due = {1, 0, 0, 0, 1, 1, 5, 0, 0, 0, 2, 1, 0};
        check.replica("a leader becomes follower", x, 1, due);
    }

    private static void leavesOneOfAGreaterBallot() {
        SlotPaxos x = new SlotPaxos(3, 2);
        x.request(2, 5);
        x.tick(2);
        Drive.bring(x, Drive.PREPARE, 2, 0);
        x.request(1, 6);
        x.tick(1);
        Drive.bring(x, Drive.PREPARE, 1, 0);
        x.turn(1, false);
        x.turn(1, true);
        x.request(1, 6);
        x.tick(1);
        check.replica("a later ballot", x, 1, 8, 4);
        Drive.bring(x, Drive.DENY, 0, 1);
        check.replica("still candidate", x, 1, 7, 1);
        check.replica("still of it", x, 1, 8, 4);
        check.replica("who has answered", x, 1, 9, 2);
        check.replica("SEEN by the deny", x, 1, 10, 2);
    }

    private static void leavesOneOfTheSameBallot() {
        SlotPaxos x = new SlotPaxos(3, 2);
        x.request(1, 6);
        x.tick(1);
        x.turn(1, false);
        x.turn(1, true);
        x.request(1, 6);
        x.tick(1);
        // The prepare with 4 comes ahead of the one with 1, which is denied with 4 then.
        x.deliver(2);
        x.deliver(0);
        check.message("deny", x, 3, 7, 0, 1, 4, 0, 0, 0);
        Drive.bring(x, Drive.DENY, 0, 1);
        check.replica("still candidate", x, 1, 7, 1);
        check.replica("still of it", x, 1, 8, 4);
        Drive.bring(x, Drive.PROMISE, 0, 1);
        check.replica("it leads", x, 1, 7, 2);
    }

    /** Replica 1 of 3 leads with 4; a prepare of it with 1 was denied late, with 4. */
    private static void leavesALeaderOfTheSameBallot() {
        SlotPaxos x = new SlotPaxos(3, 2);
        Drive.lead(x, 1, 6);
        Drive.restart(x, 1);
        Drive.lead(x, 1, 6);
        x.deliver(2);
        x.deliver(0);
        check.message("deny", x, 3, 7, 0, 1, 4, 0, 0, 0);
        Drive.bring(x, Drive.PROMISE, 0, 1);
        check.replica("it leads", x, 1, 7, 2);
        Drive.bring(x, Drive.DENY, 0, 1);
        int[] due = {1, 0, 0, 0, 4, 4, 6, 2, 4, 2, 4, 1, 6};
        check.replica("a leader of the same ballot", x, 1, due);
    }

    /** "a CANDIDATE or LEADER of a BALLOT below b becomes FOLLOWER": b is one above. */
    private static void endsALeaderOfTheBallotBelow() {
        SlotPaxos x = new SlotPaxos(5, 2);
        Drive.lead(x, 1, 11, 0, 4);
        Drive.lead(x, 2, 12);
        Drive.bring(x, Drive.ACCEPT, 1, 2);
        check.message("deny", x, x.look(2) - 1, 7, 2, 1, 2, 0, 0, 0);
        Drive.bring(x, Drive.DENY, 2, 1);
        int[] due = {1, 0, 0, 0, 1, 1, 11, 0, 0, 0, 2, 1, 0};
        check.replica("a leader of the ballot below", x, 1, due);
        check.same("its number waits", x.waiting(1, 0), 11);
    }

    private static void onlyTellsAFollower() {
        SlotPaxos x = Stories.withKind(Drive.DENY);
        Drive.restart(x, 1);
        x.request(1, 8);
        int sent = x.look(3);
        Drive.bring(x, Drive.DENY, 2, 1);
        int[] due = {1, 0, 0, 0, 1, -1, 0, 0, 0, 0, 2, 1, 0};
        check.replica("a follower", x, 1, due);
        check.same("nothing is sent", x.look(3), sent);
    }
}
