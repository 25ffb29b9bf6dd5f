/** The ballots of campaigns: whose they are, and above what they are. */
public final class BallotTest {
    private static final Check check = new Check();

    public static void main(String[] args) {
        isOfItsReplica();
        isAbovePromised();
        isAboveSeen();
        isAbovePromisedThatIsAboveSeen();
        leavesSeen();
        isKeptWhenDown();
        check.end();
    }

    /** The document's words, one ballot after the other: 0 is of none. */
    private static int leastAbove(int known, int r, int n) {
        int b = 1;
        while (b <= known || b % n != r) {
            b++;
        }
        return b;
    }

    private static int campaign(SlotPaxos x, int r) {
        x.request(r, 5);
        x.tick(r);
        return x.replica(r, 8);
    }

    /** "BALLOT b is of REPLICA b modulo N (0 is of none)"; "that of REPLICA 0 is N at least". */
    private static void isOfItsReplica() {
        for (int n = 3; n <= 5; n++) {
            for (int r = 0; r < n; r++) {
                SlotPaxos x = new SlotPaxos(n, 2);
                int due = r == 0 ? n : r;
                for (int round = 0; round < 4; round++) {
                    check.same("campaign " + round + " of " + r + " of " + n, campaign(x, r), due);
                    check.replica("campaign " + round + " of " + r + " of " + n, x, r, 4, due);
                    check.same("its prepare", x.message(x.look(2) - 1, 3), due);
                    Drive.restart(x, r);
                    due += n;
                }
            }
        }
    }

    /** "b is the least BALLOT of its own above PROMISED and SEEN": both are the ballot of another one here. */
    private static void isAbovePromised() {
        for (int n = 3; n <= 5; n++) {
            for (int r = 0; r < n; r++) {
                for (int other = 0; other < n; other++) {
                    for (int rounds = 1; rounds <= 3 && other != r; rounds++) {
                        SlotPaxos x = new SlotPaxos(n, 2);
                        int told = campaigns(x, other, rounds);
                        Drive.bring(x, Drive.PREPARE, other, r);
                        check.replica("told " + told + " of " + n, x, r, 4, told);
                        check.same("above " + told + " of " + n, campaign(x, r), leastAbove(told, r, n));
                    }
                }
            }
        }
    }

    /** The replica campaigns so often; its last prepares alone are in flight. */
    private static int campaigns(SlotPaxos x, int r, int rounds) {
        for (int round = 1; round < rounds; round++) {
            campaign(x, r);
            Drive.restart(x, r);
        }
        Drive.loseAll(x);
        return campaign(x, r);
    }

    /** One that lags is helped: its ballot is SEEN, and not PROMISED. */
    private static void isAboveSeen() {
        for (int n = 3; n <= 5; n++) {
            int late = n - 1;
            for (int r = 0; r < late; r++) {
                for (int rounds = 1; rounds <= 3; rounds++) {
                    SlotPaxos x = new SlotPaxos(n, 2);
                    x.turn(late, false);
                    Drive.learn(x, 0, 9);
                    x.turn(late, true);
                    int told = campaigns(x, late, rounds);
                    Drive.bring(x, Drive.PREPARE, late, r);
                    check.replica("PROMISED", x, r, 4, n);
                    check.replica("SEEN", x, r, 10, Math.max(n, told));
                    // A leader does not campaign.
                    Drive.restart(x, 0);
                    int seen = r == 0 ? n : Math.max(n, told);
                    check.same("above " + seen + " of " + n, campaign(x, r), leastAbove(seen, r, n));
                }
            }
        }
    }

    /** A candidate that learns has PROMISED its ballot, and has SEEN none. */
    private static void isAbovePromisedThatIsAboveSeen() {
        SlotPaxos x = new SlotPaxos(3, 2);
        Drive.lead(x, 1, 5, 0);
        Drive.bring(x, Drive.ACCEPT, 1, 0);
        Drive.bring(x, Drive.ACCEPTED, 0, 1);
        check.same("the first", campaign(x, 2), 2);
        Drive.bring(x, Drive.CHOSEN, 1, 2);
        check.replica("follower", x, 2, 7, 0);
        check.replica("SEEN", x, 2, 10, 0);
        check.replica("PROMISED", x, 2, 4, 2);
        x.request(2, 6);
        check.same("above PROMISED", campaign(x, 2), 5);
    }

    /** "PROMISED is b (SEEN stays)". */
    private static void leavesSeen() {
        SlotPaxos x = new SlotPaxos(3, 2);
        campaign(x, 1);
        check.replica("SEEN at first", x, 1, 10, 0);
        check.replica("PROMISED", x, 1, 4, 1);
        Drive.lead(x, 2, 6);
        Drive.bring(x, Drive.PREPARE, 2, 1);
        check.replica("SEEN", x, 1, 10, 2);
        campaign(x, 1);
        check.replica("SEEN stays", x, 1, 10, 2);
        check.replica("PROMISED", x, 1, 4, 4);
    }

    /** "SEEN ... (PROMISED behind a restart)": what was only SEEN is forgotten, what is PROMISED is not. */
    private static void isKeptWhenDown() {
        SlotPaxos x = new SlotPaxos(3, 2);
        x.turn(2, false);
        Drive.learn(x, 0, 9);
        x.turn(2, true);
        check.same("of the late one", campaigns(x, 2, 2), 5);
        Drive.bring(x, Drive.PREPARE, 2, 1);
        check.replica("SEEN", x, 1, 10, 5);
        check.replica("PROMISED", x, 1, 4, 3);
        Drive.restart(x, 1);
        check.replica("SEEN behind a restart", x, 1, 10, 3);
        check.same("above PROMISED alone", campaign(x, 1), 4);
    }
}
