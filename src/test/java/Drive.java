/** Brings a cluster where a test wants it, through its face alone. */
final class Drive {
    private Drive() { }

    static final int PREPARE = 1;
    static final int PROMISE = 2;
    static final int ACCEPT = 3;
    static final int ACCEPTED = 4;
    static final int CHOSEN = 5;
    static final int ASK = 6;
    static final int DENY = 7;
    static final int STATE = 8;

    /** The place of the first such message in flight. */
    static int place(SlotPaxos x, int kind, int from, int to) {
        for (int i = 0; i < x.look(2); i++) {
            if (x.message(i, 0) == kind && x.message(i, 1) == from && x.message(i, 2) == to) {
                return i;
            }
        }
        throw new IllegalStateException("no message of kind " + kind + " from " + from + " to " + to);
    }

    static void bring(SlotPaxos x, int kind, int from, int to) {
        x.deliver(place(x, kind, from, to));
    }

    /** The place of the first such message of that slot. */
    static int placeOf(SlotPaxos x, int kind, int from, int to, int slot) {
        for (int i = place(x, kind, from, to); i < x.look(2); i++) {
            if (x.message(i, 4) == slot && x.message(i, 0) == kind && x.message(i, 1) == from
                    && x.message(i, 2) == to) {
                return i;
            }
        }
        throw new IllegalStateException("no message of kind " + kind + " from " + from + " to " + to + " of " + slot);
    }

    static void loseAll(SlotPaxos x) {
        while (x.lose(0)) {
            continue;
        }
    }

    static void settle(SlotPaxos x) {
        while (x.deliver(0) != SlotPaxos.NONE) {
            continue;
        }
    }

    /** Replica r campaigns with the number and leads by the promises of the others named; nothing else is in flight. */
    static void lead(SlotPaxos x, int r, int number, int... others) {
        x.request(r, number);
        x.tick(r);
        for (int other : others) {
            bring(x, PREPARE, r, other);
            bring(x, PROMISE, other, r);
        }
    }

    /** The accept of leader r comes to the other, and is lost to all the rest. */
    static void acceptAt(SlotPaxos x, int r, int other) {
        bring(x, ACCEPT, r, other);
        loseAll(x);
    }

    /** All that are up learn the number, by way of replica r. */
    static void learn(SlotPaxos x, int r, int number) {
        x.request(r, number);
        x.tick(r);
        settle(x);
    }

    /** Replica r goes down and comes up again. */
    static void restart(SlotPaxos x, int r) {
        x.turn(r, false);
        x.turn(r, true);
    }

    /** Some calls more, the same whatever has been: what is hidden in the cluster comes to light by them. */
    static SlotPaxos goOn(SlotPaxos x) {
        for (int round = 0; round < 3; round++) {
            for (int i = 0; i < 20; i++) {
                x.deliver(0);
            }
            for (int r = 0; r < 5; r++) {
                x.turn(r, true);
                x.request(r, 70 + r);
                x.tick(r);
            }
        }
        return x;
    }
}
