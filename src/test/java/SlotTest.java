/** Promise 9. */
public final class SlotTest {
    private static final Check check = new Check();

    public static void main(String[] args) {
        keepsTheLast();
        refusesWhatIsNot();
        isKeptWhenDown();
        keepsNothingAheadOrBehind();
        check.end();
    }

    private static void keepsTheLast() {
        for (int kept : new int[] {1, 2, 3, 31, 32}) {
            SlotPaxos x = new SlotPaxos(3, kept);
            x.request(0, 101);
            x.tick(0);
            Drive.bring(x, Drive.PREPARE, 0, 1);
            Drive.bring(x, Drive.PROMISE, 1, 0);
            Drive.loseAll(x);
            for (int slot = 1; slot <= 40; slot++) {
                learnAtTwo(x, 100 + slot);
            }
            for (int r = 0; r < 2; r++) {
                for (int slot = 1; slot <= 40; slot++) {
                    check.same("L " + kept + ": slot(" + r + ", " + slot + ")", x.slot(r, slot),
                            slot > 40 - kept ? 100 + slot : 0);
                }
                check.same("behind the last", x.slot(r, 41), 0);
            }
        }
    }

    /** Leader 0 and replica 1 learn the number: few calls, for 40 slots have to do with 512. */
    private static void learnAtTwo(SlotPaxos x, int number) {
        x.request(0, number);
        x.tick(0);
        check.same("accept", x.deliver(0), 3);
        check.same("accepted", x.deliver(1), 4);
        x.lose(0);
        check.same("chosen", x.deliver(0), 5);
        x.lose(0);
    }

    private static void refusesWhatIsNot() {
        SlotPaxos x = new SlotPaxos(3, 32);
        check.same("nothing is learned", x.slot(0, 1), 0);
        Drive.learn(x, 0, 7);
        check.same("slot(0, 1)", x.slot(0, 1), 7);
        for (int slot : new int[] {0, -1, 2, 33, 32, -31, Integer.MIN_VALUE, Integer.MAX_VALUE}) {
            check.same("slot(0, " + slot + ")", x.slot(0, slot), 0);
        }
        for (int r : new int[] {-1, 3, Integer.MIN_VALUE, Integer.MAX_VALUE}) {
            check.same("slot(" + r + ", 1)", x.slot(r, 1), 0);
        }
    }

    private static void isKeptWhenDown() {
        SlotPaxos x = new SlotPaxos(3, 2);
        Drive.learn(x, 0, 7);
        x.turn(0, false);
        check.same("down", x.slot(0, 1), 7);
        x.turn(0, true);
        check.same("up again", x.slot(0, 1), 7);
    }

    /** "0 if it keeps none such": ahead of the first that is kept, behind INDEX, and far off by a whole row of them. */
    private static void keepsNothingAheadOrBehind() {
        SlotPaxos x = new SlotPaxos(3, 2);
        for (int number = 5; number <= 8; number++) {
            Drive.learn(x, 0, number);
        }
        int[] due = {0, 0, 0, 7, 8, 0, 0};
        for (int slot = 0; slot <= 6; slot++) {
            check.same("slot(1, " + slot + ")", x.slot(1, slot), due[slot]);
        }
        for (int off : new int[] {2, 4, 8, 16, 32, 64, 1 << 30, 1 << 31}) {
            check.same("slot(1, 4 + " + off + ")", x.slot(1, 4 + off), 0);
            check.same("slot(1, 4 - " + off + ")", x.slot(1, 4 - off), 0);
        }
        SlotPaxos y = Stories.behindAState();
        for (int slot = -1; slot <= 3; slot++) {
            check.same("behind a state: slot(0, " + slot + ")", y.slot(0, slot), 0);
        }
        check.same("the last replica", x.slot(2, 4), 8);
        check.same("behind the last replica", x.slot(3, 4), 0);
        check.same("ahead of the first replica", x.slot(-1, 4), 0);
    }
}
