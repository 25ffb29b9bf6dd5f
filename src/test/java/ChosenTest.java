/** Promise 4: what CHOSEN and ASK do. */
public final class ChosenTest {
    private static final Check check = new Check();

    public static void main(String[] args) {
        isLearned();
        isLearnedOnce();
        asksWhenItLags();
        endsACandidate();
        leavesALeader();
        askIsHelped();
        askOfNothingNewIsStill();
        sumsUp();
        comesAhead();
        comesLate();
        check.end();
    }

    private static void isLearned() {
        SlotPaxos x = new SlotPaxos(3, 2);
        Drive.lead(x, 1, 5, 0);
        Drive.bring(x, Drive.ACCEPT, 1, 2);
        Drive.bring(x, Drive.ACCEPTED, 2, 1);
        Drive.bring(x, Drive.CHOSEN, 1, 2);
        int[] due = {1, 1, 5, 0, 1, -1, 0, 0, 0, 0, 1, 0, 0};
        check.replica("learned", x, 2, due);
        check.same("slot(2, 1)", x.slot(2, 1), 5);
    }

    private static void isLearnedOnce() {
        SlotPaxos x = new SlotPaxos(3, 2);
        Drive.lead(x, 1, 5, 0);
        Drive.bring(x, Drive.ACCEPT, 1, 0);
        Drive.bring(x, Drive.ACCEPTED, 0, 1);
        x.twice(Drive.place(x, Drive.CHOSEN, 1, 2));
        Drive.bring(x, Drive.CHOSEN, 1, 2);
        int sent = x.look(3);
        Drive.bring(x, Drive.CHOSEN, 1, 2);
        check.replica("learned once", x, 2, 1, 1);
        check.replica("learned once", x, 2, 2, 5);
        check.same("look(3)", x.look(3), sent);
    }

    private static void asksWhenItLags() {
        SlotPaxos x = new SlotPaxos(3, 4);
        x.turn(2, false);
        Drive.learn(x, 1, 5);
        x.turn(2, true);
        Drive.lead(x, 1, 6);
        Drive.bring(x, Drive.ACCEPT, 1, 0);
        Drive.bring(x, Drive.ACCEPTED, 0, 1);
        Drive.bring(x, Drive.CHOSEN, 1, 2);
        check.message("ask", x, x.look(2) - 1, 6, 2, 1, 0, 1, 0, 0);
        check.replica("nothing is learned", x, 2, 1, 0);
        Drive.bring(x, Drive.ASK, 2, 1);
        check.message("help", x, x.look(2) - 1, 5, 1, 2, 0, 1, 5, 0);
        Drive.bring(x, Drive.CHOSEN, 1, 2);
        check.replica("slot 1 is learned", x, 2, 1, 1);
    }

    private static void endsACandidate() {
        SlotPaxos x = new SlotPaxos(3, 2);
        Drive.lead(x, 1, 5, 0);
        Drive.bring(x, Drive.ACCEPT, 1, 0);
        Drive.bring(x, Drive.ACCEPTED, 0, 1);
        x.request(2, 5);
        x.request(2, 6);
        x.tick(2);
        Drive.bring(x, Drive.CHOSEN, 1, 2);
        int[] due = {1, 1, 5, 0, 2, -1, 0, 0, 0, 0, 0, 1, 0};
        check.replica("a candidate that learns", x, 2, due);
        check.same("waiting(2, 0)", x.waiting(2, 0), 6);
    }

    private static void leavesALeader() {
        SlotPaxos x = new SlotPaxos(3, 2);
        Drive.lead(x, 1, 5, 0);
        Drive.bring(x, Drive.ACCEPT, 1, 0);
        Drive.bring(x, Drive.ACCEPTED, 0, 1);
        // Replica 2 leads by the promise of 0, which has accepted 5 but not learned it.
        x.request(2, 5);
        x.request(2, 6);
        x.tick(2);
        Drive.bring(x, Drive.PREPARE, 2, 0);
        Drive.bring(x, Drive.PROMISE, 0, 2);
        check.replica("a leader", x, 2, 7, 2);
        int sent = x.look(3);
        Drive.bring(x, Drive.CHOSEN, 1, 2);
        int[] due = {1, 1, 5, 0, 2, -1, 0, 2, 2, 0, 2, 1, 0};
        check.replica("a leader that learns", x, 2, due);
        check.same("it sends nothing yet", x.look(3), sent);
        x.tick(2);
        check.replica("it proposes at its next tick", x, 2, 12, 6);
        check.message("accept", x, x.look(2) - 1, 3, 2, 1, 2, 2, 6, 0);
    }

    private static void askIsHelped() {
        SlotPaxos x = new SlotPaxos(3, 1);
        x.turn(0, false);
        Drive.learn(x, 1, 5);
        x.turn(0, true);
        x.tick(0);
        x.twice(0);
        check.same("deliver", x.deliver(0), 6);
        check.message("the number of the slot", x, 1, 5, 1, 0, 0, 1, 5, 0);
        x.turn(0, false);
        x.lose(1);
        x.request(1, 6);
        x.tick(1);
        Drive.bring(x, Drive.ACCEPT, 1, 2);
        Drive.bring(x, Drive.ACCEPTED, 2, 1);
        x.turn(0, true);
        Drive.bring(x, Drive.ASK, 0, 1);
        check.message("the state, for slot 1 is not kept", x, x.look(2) - 1, 8, 1, 0, 0, 2, 31 * 5 + 6, 0);
    }

    private static void askOfNothingNewIsStill() {
        SlotPaxos x = new SlotPaxos(3, 2);
        Drive.learn(x, 1, 5);
        x.tick(0);
        check.message("ask for slot 2", x, 0, 6, 0, 1, 0, 2, 0, 0);
        x.deliver(0);
        check.inFlight("no answer", x, 0);
    }

    private static void sumsUp() {
        SlotPaxos x = new SlotPaxos(3, 2);
        int[] numbers = {Integer.MAX_VALUE, 3, Integer.MAX_VALUE - 7, 1, 99};
        int sum = 0;
        for (int number : numbers) {
            Drive.learn(x, 1, number);
            sum = (int) ((31L * sum + number) & 0xffffffffL);
            for (int r = 0; r < 3; r++) {
                check.replica("behind " + number, x, r, 2, sum);
            }
        }
    }

    /** Slot 3 is chosen, by replicas 1 and 0 of 3; replica 2 is up, with that INDEX, and the message is on its way. */
    private static SlotPaxos thirdIsChosen(int index) {
        SlotPaxos x = new SlotPaxos(3, 8);
        for (int slot = 1; slot <= 2; slot++) {
            if (slot == index + 1) {
                x.turn(2, false);
            }
            Drive.learn(x, 1, 4 + slot);
        }
        x.turn(2, true);
        choose(x, 3, 7);
        check.replica("INDEX", x, 2, 1, index);
        return x;
    }

    private static void choose(SlotPaxos x, int slot, int number) {
        x.request(1, number);
        x.tick(1);
        x.deliver(Drive.placeOf(x, Drive.ACCEPT, 1, 0, slot));
        x.deliver(Drive.placeOf(x, Drive.ACCEPTED, 0, 1, slot));
        x.deliver(Drive.placeOf(x, Drive.CHOSEN, 1, 0, slot));
    }

    /** "if s is INDEX + 1 it LEARNS its number ...; if s is above, ASK with slot INDEX + 1 goes to q". */
    private static void comesAhead() {
        for (int index = 0; index <= 2; index++) {
            SlotPaxos x = thirdIsChosen(index);
            int sent = x.look(3);
            Drive.bring(x, Drive.CHOSEN, 1, 2);
            check.replica("slot 3 at INDEX " + index, x, 2, 1, index == 2 ? 3 : index);
            check.same("the number of slot 3", x.slot(2, 3), index == 2 ? 7 : 0);
            check.same("what is sent", x.look(3), index == 2 ? sent : sent + 1);
            if (index < 2) {
                check.message("slot 3 at INDEX " + index, x, x.look(2) - 1, 6, 2, 1, 0, index + 1, 0, 0);
            }
        }
    }

    /** The other side: s is INDEX, or below it. */
    private static void comesLate() {
        for (int index = 3; index <= 4; index++) {
            SlotPaxos x = thirdIsChosen(2);
            x.twice(Drive.place(x, Drive.CHOSEN, 1, 2));
            Drive.bring(x, Drive.CHOSEN, 1, 2);
            if (index == 4) {
                choose(x, 4, 8);
                x.deliver(Drive.placeOf(x, Drive.CHOSEN, 1, 2, 4));
            }
            check.replica("INDEX", x, 2, 1, index);
            int sum = x.replica(2, 2);
            int sent = x.look(3);
            x.deliver(Drive.placeOf(x, Drive.CHOSEN, 1, 2, 3));
            check.replica("slot 3 at INDEX " + index, x, 2, 1, index);
            check.replica("slot 3 at INDEX " + index, x, 2, 2, sum);
            check.same("nothing is sent", x.look(3), sent);
        }
    }
}
