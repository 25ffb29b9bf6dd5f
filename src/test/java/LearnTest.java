/** How a slot is learned: SUM, the numbers that are kept, and those that wait. */
public final class LearnTest {
    private static final Check check = new Check();

    public static void main(String[] args) {
        sumsUpModulo();
        keepsAtMostL();
        keepsNothingOfALesserOrGreaterL();
        dropsAllThatAreTheNumber();
        check.end();
    }

    /** "with each number v learned it is 31 * SUM + v modulo 2^32": at 2^31 and 2^32, and on both sides. */
    private static void sumsUpModulo() {
        int half = 69273665;
        sumsUpTo(half, 31, Integer.MAX_VALUE - 1);
        sumsUpTo(half, 32, Integer.MAX_VALUE);
        sumsUpTo(half, 33, Integer.MIN_VALUE);
        sumsUpTo(half, 34, Integer.MIN_VALUE + 1);
        int whole = 138547332;
        sumsUpTo(whole, 2, -2);
        sumsUpTo(whole, 3, -1);
        sumsUpTo(whole, 4, 0);
        sumsUpTo(whole, 5, 1);
        sumsUpTo(Integer.MAX_VALUE, Integer.MAX_VALUE, (int) (32L * Integer.MAX_VALUE & 0xffffffffL));
        sumsUpTo(1, 1, 32);
    }

    /** By the leader, by a follower that is told what is chosen, and by one that is told the state. */
    private static void sumsUpTo(int first, int second, int due) {
        SlotPaxos x = new SlotPaxos(3, 1);
        check.replica("SUM at first", x, 1, 2, 0);
        x.turn(0, false);
        Drive.learn(x, 1, first);
        check.replica("SUM of one number", x, 1, 2, first);
        Drive.learn(x, 1, second);
        x.turn(0, true);
        x.tick(0);
        Drive.settle(x);
        for (int r = 0; r < 3; r++) {
            check.replica("behind " + first + " and " + second, x, r, 1, 2);
            check.replica("behind " + first + " and " + second, x, r, 2, due);
        }
        Drive.learn(x, 1, 7);
        check.replica("SUM goes on", x, 0, 2, 31 * due + 7);
        check.replica("SUM goes on", x, 1, 2, 31 * due + 7);
    }

    /** Leader 0 and replica 1 learn the number: few calls, for many slots have to do with 512. */
    static void learnAtTwo(SlotPaxos x, int number) {
        x.request(0, number);
        x.tick(0);
        x.deliver(0);
        x.deliver(1);
        x.lose(0);
        x.deliver(0);
        x.lose(0);
    }

    /** Replica 0 of 3 leads, nothing is in flight, and nothing is learned; 101 waits. */
    static SlotPaxos ledByZero(int kept) {
        SlotPaxos x = new SlotPaxos(3, kept);
        Drive.lead(x, 0, 101, 1);
        Drive.loseAll(x);
        return x;
    }

    private static SlotPaxos learned(int kept, int slots) {
        SlotPaxos x = ledByZero(kept);
        for (int slot = 1; slot <= slots; slot++) {
            learnAtTwo(x, 100 + slot);
        }
        return x;
    }

    /** "at most L"; "it is kept (the oldest goes if there would be more than L)". */
    private static void keepsAtMostL() {
        for (int kept : new int[] {1, 2, 3, 16, 31, 32}) {
            for (int slots : new int[] {kept - 1, kept, kept + 1, kept + 2}) {
                keeps(learned(kept, slots), slots, Math.max(0, slots - kept), "L " + kept);
            }
        }
    }

    private static void keeps(SlotPaxos x, int slots, int ahead, String when) {
        for (int r = 0; r < 2; r++) {
            check.replica(when, x, r, 1, slots);
            check.replica(when + ", " + slots + " slots", x, r, 3, ahead);
            for (int slot = 0; slot <= slots + 1; slot++) {
                int due = slot > ahead && slot <= slots ? 100 + slot : 0;
                check.same(when + ", " + slots + " slots: slot(" + r + ", " + slot + ")", x.slot(r, slot), due);
            }
        }
    }

    /** "kept L (1 .. 32); others count as the nearest of these", seen by what is kept. */
    private static void keepsNothingOfALesserOrGreaterL() {
        keeps(learned(0, 1), 1, 0, "L 0");
        keeps(learned(0, 2), 2, 1, "L 0");
        keeps(learned(Integer.MIN_VALUE, 2), 2, 1, "the least L");
        keeps(learned(33, 32), 32, 0, "L 33");
        keeps(learned(33, 33), 33, 1, "L 33");
        keeps(learned(Integer.MAX_VALUE, 33), 33, 1, "the greatest L");
    }

    /** "all that are WAITING there and are this number go": none, the first, the last, some, all. */
    private static void dropsAllThatAreTheNumber() {
        dropsFrom(new int[] {1, 2, 3, 4, 5, 6, 8, 9});
        dropsFrom(new int[] {7, 2, 3, 4, 5, 6, 8, 9});
        dropsFrom(new int[] {1, 2, 3, 4, 5, 6, 8, 7});
        dropsFrom(new int[] {1, 7, 7, 4, 7, 6, 7, 9});
        dropsFrom(new int[] {7, 7, 7, 7, 7, 7, 7, 7});
        dropsFrom(new int[] {7});
        dropsFrom(new int[] {8});
        dropsFrom(new int[] {});
    }

    /** Replica 2 learns 7 by a message. */
    private static void dropsFrom(int[] numbers) {
        SlotPaxos x = new SlotPaxos(3, 2);
        x.request(0, 7);
        x.tick(0);
        for (int number : numbers) {
            x.request(2, number);
        }
        Drive.settle(x);
        int left = 0;
        for (int number : numbers) {
            if (number != 7) {
                check.same("what still waits, in its order", x.waiting(2, left), number);
                left++;
            }
        }
        check.replica("how many still wait", x, 2, 11, left);
        check.same("behind the last", x.waiting(2, left), 0);
        for (int more = left; more < 8; more++) {
            check.same("there is room for them", x.request(2, 50 + more), true);
            check.same("the new one is the last", x.waiting(2, more), 50 + more);
        }
        check.same("there is no room for more", x.request(2, 60), false);
        check.replica("at the leader", x, 0, 11, 0);
    }
}
