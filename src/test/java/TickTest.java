/** Promise 3. */
public final class TickTest {
    private static final Check check = new Check();

    public static void main(String[] args) {
        refusesWrongReplicas();
        followerAsksTheNext();
        followerWithNumbersCampaigns();
        campaignsAboveAllItKnows();
        candidatePreparesAgain();
        leaderAcceptsAgain();
        leaderWithoutOneProposes();
        leaderWithoutNumbersIsStill();
        followerAsksTheNextOfAny();
        takesEachReplicaAndNoOther();
        tellsHowManyAreInFlight();
        check.end();
    }

    private static void refusesWrongReplicas() {
        SlotPaxos x = new SlotPaxos(3, 2);
        for (int r : new int[] {-1, 3, Integer.MIN_VALUE, Integer.MAX_VALUE}) {
            check.same("tick(" + r + ")", x.tick(r), -1);
        }
        x.request(1, 4);
        x.turn(1, false);
        check.same("tick of one that is down", x.tick(1), -1);
        check.inFlight("refused", x, 0);
        check.same("look(3)", x.look(3), 0);
        check.replica("refused", x, 1, 4, 0);
    }

    private static void followerAsksTheNext() {
        SlotPaxos x = new SlotPaxos(3, 2);
        check.same("tick(0)", x.tick(0), 1);
        check.message("follower 0", x, 0, 6, 0, 1, 0, 1, 0, 0);
        check.same("tick(2)", x.tick(2), 2);
        check.message("the last follower", x, 1, 6, 2, 0, 0, 1, 0, 0);
        Drive.loseAll(x);
        Drive.learn(x, 0, 9);
        check.same("tick(1) with INDEX 1", x.tick(1), 1);
        check.message("follower with INDEX 1", x, 0, 6, 1, 2, 0, 2, 0, 0);
    }

    private static void followerWithNumbersCampaigns() {
        for (int n = 3; n <= 5; n++) {
            for (int r = 0; r < n; r++) {
                SlotPaxos x = new SlotPaxos(n, 2);
                int ballot = r == 0 ? n : r;
                x.request(r, 6);
                check.same("tick", x.tick(r), n - 1);
                int i = 0;
                for (int to = 0; to < n; to++) {
                    if (to != r) {
                        check.message("campaign", x, i, 1, r, to, ballot, 1, 0, 0);
                        i++;
                    }
                }
                int[] due = {1, 0, 0, 0, ballot, -1, 0, 1, ballot, 1 << r, 0, 1, 0};
                check.replica("campaign of " + r + " of " + n, x, r, due);
            }
        }
    }

    private static void campaignsAboveAllItKnows() {
        SlotPaxos x = new SlotPaxos(3, 2);
        x.request(2, 6);
        x.tick(2);
        x.turn(2, false);
        x.turn(2, true);
        x.request(2, 6);
        x.tick(2);
        check.replica("above PROMISED", x, 2, 8, 5);
        Drive.bring(x, Drive.PREPARE, 2, 0);
        Drive.loseAll(x);
        check.replica("SEEN 2 alone", x, 0, 10, 2);

        SlotPaxos y = new SlotPaxos(3, 2);
        y.request(1, 6);
        y.tick(1);
        y.request(0, 6);
        y.tick(0);
        y.deliver(Drive.place(y, Drive.PREPARE, 0, 1));
        check.replica("a greater ballot is promised", y, 1, 4, 3);
        y.tick(1);
        check.replica("the least of its own above 3", y, 1, 8, 4);
        check.replica("SEEN stays", y, 1, 10, 3);
        check.replica("PROMISED is its own", y, 1, 4, 4);

        // One that is helped has seen the ballot, but has not promised it.
        SlotPaxos z = new SlotPaxos(3, 4);
        z.turn(2, false);
        Drive.learn(z, 0, 9);
        z.turn(2, true);
        z.request(2, 7);
        z.tick(2);
        Drive.loseAll(z);
        z.turn(2, false);
        z.turn(2, true);
        z.request(2, 7);
        z.tick(2);
        Drive.bring(z, Drive.PREPARE, 2, 1);
        check.replica("PROMISED of one that helps", z, 1, 4, 3);
        check.replica("SEEN of one that helps", z, 1, 10, 5);
        z.request(1, 8);
        z.tick(1);
        check.replica("above SEEN", z, 1, 8, 7);
    }

    private static void candidatePreparesAgain() {
        SlotPaxos x = new SlotPaxos(3, 2);
        x.request(1, 6);
        x.tick(1);
        check.same("tick of a candidate", x.tick(1), 4);
        check.message("again", x, 2, 1, 1, 0, 1, 1, 0, 0);
        check.message("again", x, 3, 1, 1, 2, 1, 1, 0, 0);
        check.replica("still of the same ballot", x, 1, 8, 1);
        check.replica("still candidate", x, 1, 7, 1);
    }

    private static void leaderAcceptsAgain() {
        SlotPaxos x = new SlotPaxos(3, 2);
        Drive.lead(x, 1, 6, 2);
        Drive.loseAll(x);
        check.same("tick of a leader", x.tick(1), 2);
        check.message("again", x, 0, 3, 1, 0, 1, 1, 6, 0);
        check.message("again", x, 1, 3, 1, 2, 1, 1, 6, 0);
        check.replica("still proposed", x, 1, 12, 6);
    }

    private static void leaderWithoutOneProposes() {
        SlotPaxos x = new SlotPaxos(3, 2);
        Drive.learn(x, 1, 6);
        check.replica("leader", x, 1, 7, 2);
        x.request(1, 8);
        x.request(1, 9);
        check.same("tick of a leader without a proposed one", x.tick(1), 2);
        check.message("proposed", x, 0, 3, 1, 0, 1, 2, 8, 0);
        check.message("proposed", x, 1, 3, 1, 2, 1, 2, 8, 0);
        int[] due = {1, 1, 6, 0, 1, 1, 8, 2, 1, 2, 1, 2, 8};
        check.replica("proposes", x, 1, due);
        check.same("it stays among the waiting", x.waiting(1, 0), 8);
    }

    private static void leaderWithoutNumbersIsStill() {
        SlotPaxos x = new SlotPaxos(3, 2);
        Drive.learn(x, 1, 6);
        check.same("tick of a leader with nothing", x.tick(1), 0);
        check.replica("still leader", x, 1, 7, 2);
        check.replica("nothing proposed", x, 1, 12, 0);
        check.replica("nobody has answered", x, 1, 9, 0);
    }

    /** "sends ASK (6) with slot INDEX + 1 to the next REPLICA (the one behind the last is 0)". */
    private static void followerAsksTheNextOfAny() {
        for (int n = 3; n <= 5; n++) {
            SlotPaxos x = new SlotPaxos(n, 2);
            for (int r = 0; r < n - 1; r++) {
                check.same("tick(" + r + ")", x.tick(r), r + 1);
                check.message("ask of " + r + " of " + n, x, r, 6, r, r + 1, 0, 1, 0, 0);
            }
            check.same("tick of the last", x.tick(n - 1), n);
            check.message("ask of the last of " + n, x, n - 1, 6, n - 1, 0, 0, 1, 0, 0);
        }
    }

    /** "NONE if there is no such REPLICA". */
    private static void takesEachReplicaAndNoOther() {
        for (int n = 3; n <= 5; n++) {
            SlotPaxos x = new SlotPaxos(n, 2);
            check.same("tick(-1) of " + n, x.tick(-1), -1);
            check.same("tick(0) of " + n, x.tick(0), 1);
            check.same("tick(n - 1) of " + n, x.tick(n - 1), 2);
            check.same("tick(n) of " + n, x.tick(n), -1);
            x.turn(n - 1, false);
            check.same("tick of one that is down", x.tick(n - 1), -1);
            x.turn(n - 1, true);
            check.same("tick of one that is up again", x.tick(n - 1), 3);
        }
    }

    /** "how many messages are in FLIGHT then": also those of before, none, and 200. */
    private static void tellsHowManyAreInFlight() {
        check.same("none", Stories.idleLeader().tick(2), 0);
        check.same("at 198", Stories.inFlight(198).tick(4), 199);
        check.same("at 199", Stories.inFlight(199).tick(4), 200);
        check.same("at 200", Stories.inFlight(200).tick(4), 200);
        check.same("four at 197", Stories.inFlight(197).tick(2), 200);
    }
}
