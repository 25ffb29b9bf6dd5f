/** Promise 8; what each value is in which state is tested where the state comes about, too. */
public final class ReplicaTest {
    private static final Check check = new Check();

    public static void main(String[] args) {
        refusesWhatIsNot();
        tellsAllOfALeader();
        tellsWhatIsKeptWhenDown();
        tellsWhereItsNumbersBegin();
        tellsASumOfMinusOne();
        changesNothing();
        takesEachWhatAndNoOther();
        tellsWhatHasNoNumbers();
        check.end();
    }

    private static void refusesWhatIsNot() {
        SlotPaxos x = new SlotPaxos(4, 2);
        for (int odd : new int[] {-1, 13, 14, Integer.MIN_VALUE, Integer.MAX_VALUE}) {
            for (int r = 0; r < 4; r++) {
                check.replica("no such what", x, r, odd, -1);
            }
            for (int what = 0; what <= 12; what++) {
                check.replica("no such replica", x, odd, what, -1);
            }
            check.replica("neither", x, odd, odd, -1);
        }
        check.replica("behind the last", x, 4, 0, -1);
        check.replica("the last", x, 3, 0, 1);
        x.turn(3, false);
        check.replica("no such what of one that is down", x, 3, 13, -1);
        check.replica("no such what of one that is down", x, 3, -1, -1);
    }

    private static void tellsAllOfALeader() {
        SlotPaxos x = new SlotPaxos(5, 2);
        Drive.lead(x, 3, 40, 0, 2);
        x.request(3, 41);
        Drive.bring(x, Drive.ACCEPT, 3, 4);
        Drive.bring(x, Drive.ACCEPTED, 4, 3);
        int[] due = {1, 0, 0, 0, 3, 3, 40, 2, 3, 8 + 16, 3, 2, 40};
        check.replica("leader", x, 3, due);
    }

    private static void tellsWhatIsKeptWhenDown() {
        SlotPaxos x = new SlotPaxos(3, 2);
        Drive.learn(x, 0, 9);
        x.request(0, 4);
        x.tick(0);
        x.turn(0, false);
        int[] due = {0, 1, 9, 0, 3, 3, 4, -1, -1, -1, -1, -1, -1};
        check.replica("down", x, 0, due);
    }

    private static void tellsWhereItsNumbersBegin() {
        for (int kept : new int[] {1, 2, 5}) {
            SlotPaxos x = new SlotPaxos(3, kept);
            check.replica("none is kept, L " + kept, x, 0, 3, 0);
            for (int slot = 1; slot <= 8; slot++) {
                Drive.learn(x, 0, 20 + slot);
                check.replica("INDEX, L " + kept, x, 0, 1, slot);
                check.replica("ahead of the first, L " + kept, x, 0, 3, Math.max(0, slot - kept));
            }
        }
    }

    /** 31 * a + b is 2^32 - 1: with the numbers a and b, SUM is -1, and that is no NONE. */
    private static void tellsASumOfMinusOne() {
        SlotPaxos x = new SlotPaxos(3, 1);
        int a = 138547332;
        int b = (int) (0xffffffffL - 31L * a);
        check.same("b is a number", b >= 1, true);
        Drive.learn(x, 0, a);
        Drive.learn(x, 0, b);
        check.replica("SUM", x, 0, 2, -1);
        check.replica("INDEX", x, 0, 1, 2);
        x.turn(2, false);
        Drive.learn(x, 0, 1);
        check.replica("SUM behind it", x, 0, 2, -30);
        check.replica("SUM of one that is down", x, 2, 2, -1);
    }

    private static void changesNothing() {
        SlotPaxos x = new SlotPaxos(3, 2);
        x.request(0, 4);
        x.tick(0);
        for (int round = 0; round < 2; round++) {
            int[] due = {1, 0, 0, 0, 3, -1, 0, 1, 3, 1, 0, 1, 0};
            check.replica("round " + round, x, 0, due);
            check.inFlight("round " + round, x, 2);
        }
    }

    /** "7 to 12: NONE if it is DOWN. NONE if there is no such REPLICA, or what." */
    private static void takesEachWhatAndNoOther() {
        for (int n = 3; n <= 5; n++) {
            for (int what = -1; what <= 13; what++) {
                SlotPaxos x = new SlotPaxos(n, 2);
                Drive.learn(x, n - 1, 9);
                boolean isOne = what >= 0 && what <= 12;
                check.replica("no such replica", x, -1, what, -1);
                check.replica("no such replica", x, n, what, -1);
                check.same("the last replica, what " + what, x.replica(n - 1, what) != -1, isOne && what != 5);
                x.turn(n - 1, false);
                check.same("down, what " + what, x.replica(n - 1, what) != -1, isOne && what < 7 && what != 5);
            }
        }
    }

    /** "3: the slot ahead of the first number that it keeps, or, if it keeps none, INDEX". */
    private static void tellsWhatHasNoNumbers() {
        check.replica("none, for nothing is learned", new SlotPaxos(3, 4), 0, 3, 0);
        check.replica("none, behind a state", Stories.behindAState(), 0, 3, 2);
        check.replica("one, for L is 1", Stories.behindAState(), 1, 3, 1);
        SlotPaxos x = Stories.twoAhead();
        x.tick(0);
        Drive.settle(x);
        check.replica("none, behind a state", x, 0, 3, 2);
        Drive.learn(x, 1, 7);
        check.replica("one, behind a state", x, 0, 1, 3);
        check.replica("one, behind a state", x, 0, 3, 2);
        Drive.learn(x, 1, 8);
        check.replica("one, for L is 1", x, 0, 1, 4);
        check.replica("one, for L is 1", x, 0, 3, 3);
    }
}
