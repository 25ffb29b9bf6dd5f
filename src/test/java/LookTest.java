/** Promise 12. */
public final class LookTest {
    private static final Check check = new Check();

    public static void main(String[] args) {
        refusesWhatIsNot();
        countsMessages();
        countsThoseLostAt200();
        fillsUpLeastFirst();
        tellsTheGreatestIndex();
        takesEachWhichAndNoOther();
        tellsTheGreatestOfEach();
        check.end();
    }

    private static void refusesWhatIsNot() {
        SlotPaxos x = new SlotPaxos(3, 2);
        for (int which : new int[] {-1, 6, 7, Integer.MIN_VALUE, Integer.MAX_VALUE}) {
            check.same("look(" + which + ")", x.look(which), -1);
        }
    }

    private static void counts(String when, SlotPaxos x, int inFlight, int sent, int lost) {
        check.same(when + ": look(2)", x.look(2), inFlight);
        check.same(when + ": look(3)", x.look(3), sent);
        check.same(when + ": look(4)", x.look(4), lost);
    }

    private static void countsMessages() {
        SlotPaxos x = new SlotPaxos(4, 2);
        x.tick(0);
        counts("an ask", x, 1, 1, 0);
        x.request(1, 5);
        x.tick(1);
        counts("three prepares", x, 4, 4, 0);
        x.twice(0);
        counts("one doubled", x, 5, 4, 0);
        x.lose(0);
        counts("one lost", x, 4, 4, 0);
        x.deliver(0);
        counts("one answered", x, 4, 5, 0);
        x.turn(2, false);
        x.deliver(0);
        counts("one gone", x, 3, 5, 0);
        x.tick(2);
        x.tick(9);
        counts("nothing is sent", x, 3, 5, 0);
    }

    private static void countsThoseLostAt200() {
        SlotPaxos x = new SlotPaxos(3, 2);
        for (int i = 1; i <= 200; i++) {
            check.same("tick " + i, x.tick(0), i);
        }
        counts("full", x, 200, 200, 0);
        check.same("tick at 200", x.tick(1), 200);
        counts("one lost", x, 200, 201, 1);
        check.message("the last is as it was", x, 199, 6, 0, 1, 0, 1, 0, 0);
        x.request(1, 5);
        check.same("campaign at 200", x.tick(1), 200);
        counts("two lost", x, 200, 203, 3);
        check.replica("it campaigns all the same", x, 1, 7, 1);
        check.same("twice at 200", x.twice(0), false);
        counts("that is none", x, 200, 203, 3);
    }

    private static void fillsUpLeastFirst() {
        SlotPaxos x = new SlotPaxos(5, 2);
        for (int i = 0; i < 198; i++) {
            x.tick(0);
        }
        x.request(2, 5);
        check.same("tick", x.tick(2), 200);
        counts("two of four", x, 200, 202, 2);
        check.message("to the least", x, 198, 1, 2, 0, 2, 1, 0, 0);
        check.message("to the next", x, 199, 1, 2, 1, 2, 1, 0, 0);
    }

    private static void tellsTheGreatestIndex() {
        SlotPaxos x = new SlotPaxos(3, 2);
        check.same("none", x.look(5), 0);
        Drive.lead(x, 2, 5, 0);
        Drive.bring(x, Drive.ACCEPT, 2, 0);
        check.same("accepted by two, learned by none", x.look(5), 0);
        Drive.bring(x, Drive.ACCEPTED, 0, 2);
        check.same("of the last", x.look(5), 1);
        x.turn(2, false);
        check.same("of one that is down", x.look(5), 1);
    }

    private static void takesEachWhichAndNoOther() {
        SlotPaxos x = Stories.inFlight(201);
        int[] due = {-1, 5, 2, 200, 201, 1, 0, -1};
        for (int which = -1; which <= 6; which++) {
            check.same("look(" + which + ")", x.look(which), due[which + 1]);
        }
    }

    /** "5: the greatest INDEX of all REPLICAS": whoever has it, and also by a state. */
    private static void tellsTheGreatestOfEach() {
        for (int n = 3; n <= 5; n++) {
            for (int r = 0; r < n; r++) {
                SlotPaxos x = new SlotPaxos(n, 2);
                Drive.lead(x, r, 5);
                while (x.replica(r, 1) == 0) {
                    x.deliver(0);
                }
                check.same("learned by " + r + " of " + n + " alone", x.look(5), 1);
                check.replica("learned by " + r + " alone", x, r == 0 ? 1 : 0, 1, 0);
                x.turn(r, false);
                check.same("also when it is down", x.look(5), 1);
            }
        }
        check.same("behind a state", Stories.behindAState().look(5), 2);
    }
}
