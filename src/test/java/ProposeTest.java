/** What a leader proposes. */
public final class ProposeTest {
    private static final Check check = new Check();

    public static void main(String[] args) {
        isTheFirstThatWaits();
        isOneThatWasLearned();
        isNothingWithoutANumber();
        isNothingMoreBehindTheLast();
        isNotChangedWhileThereIsOne();
        isNotOfFollowersOrCandidates();
        check.end();
    }

    /** "the first WAITING number is PROPOSED (it stays among them ...)"; "it alone has answered". */
    private static void isTheFirstThatWaits() {
        SlotPaxos x = Stories.idleLeader();
        x.request(2, 8);
        x.request(2, 9);
        check.same("tick", x.tick(2), 2);
        int[] due = {1, 1, 7, 0, 2, 2, 8, 2, 2, 4, 2, 2, 8};
        check.replica("the first", x, 2, due);
        check.same("it stays among them", x.waiting(2, 0), 8);
        check.same("the second", x.waiting(2, 1), 9);
        check.message("accept", x, 0, 3, 2, 0, 2, 2, 8, 0);
        check.message("accept", x, 1, 3, 2, 1, 2, 2, 8, 0);
    }

    /** "one that was learned in an earlier slot, too". */
    private static void isOneThatWasLearned() {
        SlotPaxos x = Stories.idleLeader();
        check.same("it was learned", x.slot(2, 1), 7);
        check.same("and is asked for again", x.request(2, 7), true);
        x.tick(2);
        check.replica("it is proposed", x, 2, 12, 7);
        Drive.settle(x);
        for (int r = 0; r < 3; r++) {
            check.replica("it is learned twice", x, r, 1, 2);
            check.replica("it is learned twice", x, r, 2, 31 * 7 + 7);
            check.same("it is learned twice", x.slot(r, 2), 7);
        }
        check.replica("it waits no more", x, 2, 11, 0);
    }

    /** "if there is none, nothing is". */
    private static void isNothingWithoutANumber() {
        check.changesNothing("tick of a leader without a number", Stories::idleLeader, x -> x.tick(2));
        check.same("tick", Stories.idleLeader().tick(2), 0);
    }

    /** "CHOSEN ... goes to ALL, and it LEARNS it, and PROPOSES": with a number more, and without. */
    private static void isNothingMoreBehindTheLast() {
        for (int more = 0; more <= 1; more++) {
            SlotPaxos x = new SlotPaxos(3, 2);
            Drive.lead(x, 2, 5, 0);
            if (more == 1) {
                x.request(2, 6);
            }
            Drive.bring(x, Drive.ACCEPT, 2, 0);
            int sent = x.look(3);
            Drive.bring(x, Drive.ACCEPTED, 0, 2);
            check.same("two chosen, and two accepts if there is one more", x.look(3), sent + 2 + 2 * more);
            check.replica("learned", x, 2, 1, 1);
            check.replica("leader", x, 2, 7, 2);
            check.replica("proposed", x, 2, 12, 6 * more);
            check.replica("accepted", x, 2, 5, more == 1 ? 2 : -1);
            check.replica("answered", x, 2, 9, 4 * more);
        }
    }

    /** "To PROPOSE (a LEADER without a PROPOSED one)": with one, a tick sends it again and leaves who has answered. */
    private static void isNotChangedWhileThereIsOne() {
        SlotPaxos x = Stories.leader();
        check.replica("who has answered", x, 3, 9, 9);
        int before = x.look(2);
        check.same("tick", x.tick(3), before + 3);
        for (int to = 0; to < 3; to++) {
            check.message("accept again", x, before + to, 3, 3, to, 3, 1, 41, 0);
        }
        int[] due = {1, 0, 0, 0, 3, 3, 41, 2, 3, 9, 3, 2, 41};
        check.replica("as it was", x, 3, due);
    }

    private static void isNotOfFollowersOrCandidates() {
        SlotPaxos x = new SlotPaxos(3, 2);
        x.request(1, 5);
        check.replica("a follower with a number", x, 1, 12, 0);
        x.tick(1);
        check.replica("a candidate with a number", x, 1, 12, 0);
        check.replica("a candidate with a number", x, 1, 5, -1);
        x.tick(1);
        check.replica("a candidate with a number", x, 1, 12, 0);
    }
}
