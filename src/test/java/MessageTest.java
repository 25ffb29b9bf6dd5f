/** Promise 11; the rows of each kind are tested where they are sent, too. */
public final class MessageTest {
    private static final Check check = new Check();

    public static void main(String[] args) {
        tellsEachKind();
        refusesWhatIsNot();
        tellsAStateOfMinusOne();
        tellsTheLastOf200();
        check.end();
    }

    private static void tellsEachKind() {
        SlotPaxos x = new SlotPaxos(3, 1);
        Drive.lead(x, 1, 5, 2);
        check.message("prepare", x, 0, 1, 1, 0, 1, 1, 0, 0);
        check.message("accept", x, 1, 3, 1, 0, 1, 1, 5, 0);
        Drive.bring(x, Drive.ACCEPT, 1, 2);
        check.message("accepted", x, 2, 4, 2, 1, 1, 1, 0, 0);
        Drive.bring(x, Drive.ACCEPT, 1, 0);
        Drive.bring(x, Drive.ACCEPTED, 2, 1);
        check.message("chosen", x, 2, 5, 1, 0, 0, 1, 5, 0);
        Drive.loseAll(x);
        x.tick(0);
        check.message("ask", x, 0, 6, 0, 1, 0, 1, 0, 0);
        x.lose(0);
        x.request(2, 6);
        x.tick(2);
        x.deliver(0);
        check.message("promise", x, 1, 2, 0, 2, 2, 1, 5, 1);
        // Replica 2 is a candidate of 2; a prepare of 1 is denied by it.
        SlotPaxos y = new SlotPaxos(3, 1);
        y.request(2, 6);
        y.tick(2);
        Drive.loseAll(y);
        y.request(1, 6);
        y.tick(1);
        y.deliver(1);
        check.message("deny", y, 1, 7, 2, 1, 2, 0, 0, 0);
    }

    private static void refusesWhatIsNot() {
        SlotPaxos x = new SlotPaxos(3, 2);
        check.same("message(0, 0) of none", x.message(0, 0), -1);
        x.tick(0);
        x.tick(1);
        for (int odd : new int[] {-1, 7, 8, 200, Integer.MIN_VALUE, Integer.MAX_VALUE}) {
            check.same("message(0, " + odd + ")", x.message(0, odd), -1);
            check.same("message(1, " + odd + ")", x.message(1, odd), -1);
            check.same("message(" + odd + ", 0)", x.message(odd, 0), -1);
        }
        check.same("message(2, 0)", x.message(2, 0), -1);
        x.lose(1);
        check.same("message(1, 0)", x.message(1, 0), -1);
        check.same("message(0, 6)", x.message(0, 6), 0);
    }

    private static void tellsAStateOfMinusOne() {
        SlotPaxos x = new SlotPaxos(3, 1);
        int a = 138547332;
        x.turn(0, false);
        Drive.learn(x, 1, a);
        Drive.learn(x, 1, (int) (0xffffffffL - 31L * a));
        x.turn(0, true);
        x.tick(0);
        x.deliver(0);
        check.message("state", x, 0, 8, 1, 0, 0, 2, -1, 0);
    }

    private static void tellsTheLastOf200() {
        SlotPaxos x = Stories.inFlight(200);
        check.message("the first", x, 0, 1, 2, 0, 2, 1, 0, 0);
        check.message("the last", x, 199, 1, 2, 4, 2, 1, 0, 0);
        for (int what = -1; what <= 7; what++) {
            check.same("message(200, " + what + ")", x.message(200, what), -1);
            check.same("message(-1, " + what + ")", x.message(-1, what), -1);
        }
        for (int i : new int[] {0, 100, 199}) {
            check.same("message(" + i + ", -1)", x.message(i, -1), -1);
            check.same("message(" + i + ", 7)", x.message(i, 7), -1);
        }
    }
}
