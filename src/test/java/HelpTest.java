/** Help to those that lag: at the oldest number that is kept, and on both sides of it. */
public final class HelpTest {
    private static final Check check = new Check();
    private static final int SLOTS = 4;

    public static void main(String[] args) {
        helpsAnAsk();
        helpsAPrepare();
        helpsAnAccept();
        keepsNothingUpToTheBase();
        check.end();
    }

    private static int numberOf(int slot) {
        return 40 + slot;
    }

    private static int sumOf(int slots) {
        int sum = 0;
        for (int slot = 1; slot <= slots; slot++) {
            sum = 31 * sum + numberOf(slot);
        }
        return sum;
    }

    /** Replicas 0 and 1 have learned SLOTS slots, by leader 0; replica 2 was down then, with that INDEX. */
    private static SlotPaxos lagging(int kept, int index) {
        SlotPaxos x = new SlotPaxos(3, kept);
        for (int slot = 1; slot <= SLOTS; slot++) {
            if (slot == index + 1) {
                x.turn(2, false);
            }
            Drive.learn(x, 0, numberOf(slot));
        }
        x.turn(2, true);
        check.replica("INDEX of the one that lags", x, 2, 1, index);
        return x;
    }

    /** "if the number of slot s is kept: CHOSEN with s and that goes to q; else STATE with its INDEX ... and its SUM". */
    private static void isHelp(String when, SlotPaxos x, int kept, int from, int to, int slot) {
        int last = x.look(2) - 1;
        if (slot > SLOTS - kept) {
            check.message(when + ", slot " + slot + " is kept", x, last, 5, from, to, 0, slot, numberOf(slot), 0);
        } else {
            check.message(when + ", slot " + slot + " is not kept", x, last, 8, from, to, 0, SLOTS, sumOf(SLOTS), 0);
        }
    }

    /** "ASK: if s is not above INDEX it HELPS q with s". */
    private static void helpsAnAsk() {
        for (int kept = 1; kept <= SLOTS + 1; kept++) {
            for (int slot = 1; slot <= SLOTS + 1; slot++) {
                SlotPaxos x = lagging(kept, slot - 1);
                x.tick(2);
                check.message("ask", x, 0, 6, 2, 0, 0, slot, 0, 0);
                x.deliver(0);
                check.inFlight("ask for " + slot, x, slot <= SLOTS ? 1 : 0);
                if (slot <= SLOTS) {
                    isHelp("ask, L " + kept, x, kept, 0, 2, slot);
                }
            }
        }
        // One that asks for a slot further off has learned more than the one that it asks.
        SlotPaxos y = lagging(2, 2);
        y.tick(1);
        check.message("ask", y, 0, 6, 1, 2, 0, SLOTS + 1, 0, 0);
        y.deliver(0);
        check.inFlight("an ask of one that is ahead", y, 0);
    }

    /** "PREPARE: s up to INDEX: HELP q with s". */
    private static void helpsAPrepare() {
        for (int kept = 1; kept <= SLOTS + 1; kept++) {
            for (int slot = 1; slot <= SLOTS + 1; slot++) {
                SlotPaxos x = lagging(kept, slot - 1);
                x.request(2, 9);
                x.tick(2);
                int ballot = x.replica(2, 8);
                check.message("prepare", x, 0, 1, 2, 0, ballot, slot, 0, 0);
                x.deliver(0);
                check.replica("SEEN in any case", x, 0, 10, Math.max(3, ballot));
                if (slot <= SLOTS) {
                    isHelp("prepare, L " + kept, x, kept, 0, 2, slot);
                    check.replica("a leader that helps", x, 0, 7, 2);
                    check.replica("PROMISED of one that helps", x, 0, 4, 3);
                } else {
                    check.message("promise", x, 1, 2, 0, 2, ballot, slot, 0, 0);
                    check.replica("a leader that promises", x, 0, 7, 0);
                    check.replica("PROMISED of one that promises", x, 0, 4, ballot);
                }
            }
        }
    }

    /** "ACCEPT: s up to INDEX: HELP q with s": the accept of that slot is late at replica 2. */
    private static void helpsAnAccept() {
        for (int kept = 1; kept <= SLOTS + 1; kept++) {
            for (int slot = 1; slot <= SLOTS; slot++) {
                SlotPaxos x = new SlotPaxos(3, kept);
                Drive.lead(x, 0, numberOf(1), 1);
                for (int s = 1; s <= SLOTS; s++) {
                    x.request(0, numberOf(s));
                    x.tick(0);
                    x.deliver(Drive.placeOf(x, Drive.ACCEPT, 0, 1, s));
                    if (s != slot) {
                        loseAccepts(x, s);
                    }
                    x.deliver(Drive.placeOf(x, Drive.ACCEPTED, 1, 0, s));
                    x.deliver(Drive.placeOf(x, Drive.CHOSEN, 0, 1, s));
                    x.deliver(Drive.placeOf(x, Drive.CHOSEN, 0, 2, s));
                }
                check.replica("INDEX", x, 2, 1, SLOTS);
                x.deliver(Drive.placeOf(x, Drive.ACCEPT, 0, 2, slot));
                isHelp("accept, L " + kept, x, kept, 2, 0, slot);
                check.replica("nothing is accepted", x, 2, 5, -1);
                check.replica("nothing is promised", x, 2, 4, 0);
                check.replica("SEEN", x, 2, 10, 3);
            }
        }
    }

    private static void loseAccepts(SlotPaxos x, int slot) {
        for (int i = x.look(2) - 1; i >= 0; i--) {
            if (x.message(i, 0) == Drive.ACCEPT && x.message(i, 4) == slot) {
                x.lose(i);
            }
        }
    }

    /** "the numbers of its last slots ..., at most L and those behind its BASE". */
    private static void keepsNothingUpToTheBase() {
        for (int index = 2; index <= 3; index++) {
            SlotPaxos x = new SlotPaxos(5, 2);
            x.turn(0, false);
            for (int slot = 1; slot <= 3; slot++) {
                if (slot == index + 1) {
                    x.turn(4, false);
                }
                Drive.learn(x, 1, numberOf(slot));
            }
            x.turn(4, false);
            x.turn(0, true);
            x.tick(0);
            Drive.settle(x);
            check.replica("BASE is 3", x, 0, 3, 3);
            Drive.learn(x, 1, numberOf(4));
            check.replica("one number is kept, though L is 2", x, 0, 3, 3);
            check.replica("two are kept where there is no BASE", x, 1, 3, 2);
            check.same("the slot of the BASE", x.slot(0, 3), 0);
            check.same("the one behind it", x.slot(0, 4), numberOf(4));
            x.turn(4, true);
            x.tick(4);
            check.message("ask of the last goes to 0", x, 0, 6, 4, 0, 0, index + 1, 0, 0);
            x.deliver(0);
            if (index == 2) {
                check.message("the slot of the BASE", x, 0, 8, 0, 4, 0, 4, sumOf(4), 0);
            } else {
                check.message("the one behind it", x, 0, 5, 0, 4, 0, 4, numberOf(4), 0);
            }
            x.deliver(0);
            check.replica("helped", x, 4, 1, 4);
            check.replica("helped", x, 4, 2, sumOf(4));
        }
    }
}
