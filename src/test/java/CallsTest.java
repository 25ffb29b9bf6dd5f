import java.util.Random;

/** "An object is used for at most 512 calls after it has been made": up to the 512th all is as due. */
public final class CallsTest {
    private static final Check check = new Check();
    private static final int CALLS = 512;

    public static void main(String[] args) {
        sendsUpToTheLastCall();
        learnsUpToTheLastCall();
        campaignsUpToTheLastCall();
        answersLaterCallsSomehow();
        check.end();
    }

    /** The greatest number of messages that 512 calls can send from one replica: 4 a call. */
    private static void sendsUpToTheLastCall() {
        for (int which = 2; which <= 4; which++) {
            SlotPaxos x = new SlotPaxos(5, 1);
            x.request(3, 5);
            for (int call = 2; call < CALLS; call++) {
                check.same("tick in call " + call, x.tick(3), Math.min(200, 4 * (call - 1)));
            }
            int sent = 4 * (CALLS - 2);
            int[] due = {5, 1, 200, sent, sent - 200};
            check.same("look(" + which + ") in the last call", x.look(which), due[which]);
        }
    }

    /** As many slots as 7 calls each leave room for. */
    private static void learnsUpToTheLastCall() {
        int slots = 70;
        int sum = 0;
        for (int slot = 1; slot <= slots; slot++) {
            sum = 31 * sum + 100 + slot;
        }
        int[] due = {1, slots, sum, slots - 32};
        for (int r = 0; r < 2; r++) {
            for (int what = 0; what <= 3; what++) {
                check.replica("in the last call", learned(slots), r, what, due[what]);
            }
            check.same("slot in the last call", learned(slots).slot(r, slots), 100 + slots);
            check.same("slot in the last call", learned(slots).slot(r, slots - 31), 100 + slots - 31);
            check.same("slot in the last call", learned(slots).slot(r, slots - 32), 0);
        }
        check.same("look(5) in the last call", learned(slots).look(5), slots);
    }

    /** One call of 512 is left. */
    private static SlotPaxos learned(int slots) {
        SlotPaxos x = new SlotPaxos(3, 32);
        int calls = 6;
        x.request(0, 101);
        x.tick(0);
        x.deliver(0);
        x.lose(0);
        x.deliver(0);
        x.lose(0);
        check.same("the accept that is left", x.lose(0), true);
        calls++;
        for (int slot = 1; slot <= slots; slot++) {
            LearnTest.learnAtTwo(x, 100 + slot);
            calls += 7;
        }
        while (calls < CALLS - 1) {
            x.look(0);
            calls++;
        }
        return x;
    }

    /** Four calls a ballot: number, tick, down and up. */
    private static void campaignsUpToTheLastCall() {
        SlotPaxos x = new SlotPaxos(5, 1);
        int ballot = 0;
        for (int call = 4; call < CALLS; call += 4) {
            check.same("request", x.request(0, 1), true);
            x.tick(0);
            ballot += 5;
            check.same("down", x.turn(0, false), true);
            check.same("up", x.turn(0, true), true);
        }
        check.replica("the last ballot", x, 0, 4, ballot);
    }

    /** What later calls answer is free, but none throws, whatever it is given. */
    private static void answersLaterCallsSomehow() {
        for (int run = 0; run < 40; run++) {
            Random random = new Random(run);
            SlotPaxos x = new SlotPaxos(random.nextInt(), random.nextInt());
            for (int call = 0; call < 20 * CALLS; call++) {
                callOnce(x, random.nextInt(14), argument(random), argument(random));
            }
        }
    }

    private static int argument(Random random) {
        return random.nextInt(10) == 0 ? random.nextInt() : random.nextInt(5);
    }

    private static void callOnce(SlotPaxos x, int which, int a, int b) {
        switch (which) {
            case 0 -> x.request(a, b);
            case 1, 11 -> x.tick(a);
            case 2, 12, 13 -> x.deliver(a);
            case 3 -> x.lose(a);
            case 4 -> x.twice(a);
            case 5 -> x.turn(a, b > 0);
            case 6 -> x.replica(a, b);
            case 7 -> x.slot(a, b);
            case 8 -> x.waiting(a, b);
            case 9 -> x.message(a, b);
            default -> x.look(a);
        }
    }
}
