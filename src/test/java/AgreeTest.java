import java.util.ArrayList;
import java.util.HashMap;
import java.util.List;
import java.util.Map;
import java.util.Random;
import java.util.function.Consumer;

/**
 * "Replicas that agree on one number after the other, slot by slot, though messages are lost, doubled and
 * come in any order, and replicas go down and come again". No Model here: whoever has learned a slot, at
 * whatever time, has learned the same numbers up to it as all others that have.
 */
public final class AgreeTest {
    private static final Check check = new Check();
    private static final int RUNS = 3000;
    private static final int CALLS = 512;
    /** So few calls of trouble, and messages in flight, that the rest of 512 calls suffices to get well again. */
    private static final int TROUBLE = 200;
    private static final int MOST_IN_FLIGHT = 60;
    private static final int ROUNDS = 8;

    private static int learnedInTrouble;
    private static int learnedInAll;

    private final String name;
    private final Random random;
    private final int n;
    private final int kept;
    private final SlotPaxos x;
    private final List<Consumer<SlotPaxos>> made = new ArrayList<>();
    private int calls;
    /** SUM by INDEX, of the one that was there first. */
    private final Map<Integer, Integer> sums = new HashMap<>();

    private AgreeTest(int run) {
        name = "run " + run;
        random = new Random(run);
        n = 3 + random.nextInt(3);
        kept = 1 + random.nextInt(4);
        x = new SlotPaxos(n, kept);
        sums.put(0, 0);
    }

    public static void main(String[] args) {
        for (int run = 0; run < RUNS; run++) {
            AgreeTest test = new AgreeTest(run);
            while (test.made.size() < TROUBLE && test.calls < CALLS - 5) {
                test.makeTrouble();
            }
            learnedInTrouble += test.sums.size() - 1;
            test.getWell();
        }
        System.out.println("slots learned in trouble: " + learnedInTrouble + ", in all: " + learnedInAll);
        // A test whose runs learned nothing would be as due, too.
        check.same("slots are learned in trouble", learnedInTrouble > RUNS, true);
        check.same("slots are learned behind it", learnedInAll > learnedInTrouble, true);
        check.end();
    }

    /** Five calls at most. */
    private void makeTrouble() {
        int dice = random.nextInt(100);
        int r = random.nextInt(n);
        int flying = x.look(2);
        calls++;
        int i = flying == 0 ? 0 : random.nextInt(flying);
        if (flying > MOST_IN_FLIGHT || dice < 5) {
            call(y -> y.lose(i));
        } else if (dice < 13) {
            int number = 1 + random.nextInt(9);
            call(y -> y.request(r, number));
        } else if (dice < 25) {
            call(y -> y.tick(r));
        } else if (dice < 31) {
            call(y -> y.twice(i));
        } else if (dice < 34) {
            boolean up = random.nextInt(3) > 0;
            call(y -> y.turn(r, up));
        } else if (flying > 0) {
            int receiver = x.message(i, 2);
            calls++;
            call(y -> y.deliver(i));
            agrees(x, receiver);
            calls += 2;
        }
    }

    private void call(Consumer<SlotPaxos> one) {
        made.add(one);
        one.accept(x);
        calls++;
    }

    private void agrees(SlotPaxos y, int r) {
        int sum = y.replica(r, 2);
        Integer first = sums.putIfAbsent(y.replica(r, 1), sum);
        if (first != null) {
            check.same(name + ": SUM of replica " + r, sum, first);
        }
    }

    /**
     * All begin anew, and messages come in their order: replica 0 has its number learned behind all that was
     * learned before, and the others learn what they lack, as they ask for it.
     */
    private void getWell() {
        SlotPaxos y = new SlotPaxos(n, kept);
        for (Consumer<SlotPaxos> one : made) {
            one.accept(y);
        }
        for (int r = 0; r < n; r++) {
            Drive.restart(y, r);
        }
        Drive.loseAll(y);
        int before = y.look(5);
        y.request(0, 10);
        for (int round = 0; round < ROUNDS && y.replica(0, 11) > 0; round++) {
            y.tick(0);
            Drive.settle(y);
        }
        letAllAsk(y);
        int last = y.look(5);
        learnedInAll += last;
        check.same(name + ": a slot more is learned", last > before, true);
        check.same(name + ": its number", y.slot(0, last), 10);
        for (int r = 0; r < n; r++) {
            agrees(y, r);
            check.replica(name, y, r, 1, last);
        }
    }

    private static void letAllAsk(SlotPaxos y) {
        int last = y.look(5);
        for (int round = 0; round < ROUNDS; round++) {
            for (int r = 0; r < y.look(0); r++) {
                if (y.replica(r, 1) < last) {
                    y.tick(r);
                    Drive.settle(y);
                }
            }
        }
    }
}
