import java.util.ArrayList;
import java.util.Arrays;
import java.util.List;
import java.util.Random;
import java.util.function.Consumer;

/**
 * Promises 1 to 12 over many runs: every answer is held against that of Model, and replicas that have
 * learned as many slots have learned the same ones (that is what ballots are for). Every other run goes on
 * to the 512th call; the others end ahead of that, and all is looked at then.
 */
public final class ModelTest {
    private static final Check check = new Check();
    private static final int RUNS = 6000;
    private static final int CALLS = 512;
    private static final int CALLS_BEFORE_LOOKS = 400;
    private static final int[] ODD = {-1, 5, 13, 200, 1000, Integer.MIN_VALUE, Integer.MAX_VALUE};

    /** Of 100 calls: request, tick, deliver, lose, twice, turn; the rest only looks. */
    private static final int[][] MIXES = {
        {8, 12, 40, 5, 5, 2},
        {10, 10, 50, 0, 0, 0},
        {4, 40, 10, 1, 5, 1},
        {3, 60, 5, 0, 5, 0},
        {10, 12, 45, 15, 0, 4},
        {10, 25, 45, 2, 2, 6},
        {10, 12, 70, 1, 1, 1},
    };

    private final int run;
    private final Random random;
    private final int[] mix;
    private final int replicas;
    private final int kept;
    private final Model model;
    /** What was called, but for looks: so that a new object can be brought there when one has had its 512 calls. */
    private final List<Consumer<SlotPaxos>> made = new ArrayList<>();
    private SlotPaxos x;
    private int calls;
    private final int widest;
    private final int readyUp;
    /** Of 100 requests and ticks, so many are of replica 0: without a steady leader few slots are learned. */
    private final int steady;

    private ModelTest(int run) {
        this.run = run;
        random = new Random(run);
        mix = MIXES[run % MIXES.length];
        replicas = 2 + random.nextInt(5);
        kept = random.nextInt(4) == 0 ? random.nextInt(40) : random.nextInt(5);
        widest = random.nextBoolean() ? 1 : 1 + random.nextInt(200);
        readyUp = 1 + random.nextInt(100);
        steady = random.nextInt(3) == 0 ? 95 : random.nextInt(90);
        x = new SlotPaxos(replicas, kept);
        model = new Model(replicas, kept);
    }

    private static int runsWithOverflow;
    private static int deepest;
    private static final int[] kinds = new int[9];

    public static void main(String[] args) {
        for (int run = 0; run < RUNS; run++) {
            ModelTest test = new ModelTest(run);
            boolean looks = run % 2 == 0;
            for (int call = 0; call < (looks ? CALLS_BEFORE_LOOKS : CALLS); call++) {
                test.callOnce();
            }
            if (looks) {
                test.lookAtAll();
            }
            runsWithOverflow += test.model.overflow > 0 ? 1 : 0;
            deepest = Math.max(deepest, test.model.look(5));
        }
        System.out.println("slots at most: " + deepest + ", runs with 200 in flight: " + runsWithOverflow
                + ", messages by kind: " + Arrays.toString(kinds));
        // A test whose runs came nowhere would be as due, too.
        check.same("some runs lose messages at 200", runsWithOverflow > 100, true);
        check.same("some runs learn many slots", deepest > 20, true);
        for (int kind = 1; kind <= 8; kind++) {
            check.same("some messages of kind " + kind + " come", kinds[kind] > 1000, true);
        }
        check.end();
    }

    private void callOnce() {
        int dice = random.nextInt(100);
        int which = 0;
        while (which < mix.length && dice >= mix[which]) {
            dice -= mix[which];
            which++;
        }
        switch (which) {
            case 0 -> request(actor(), random.nextInt(30) == 0 ? random.nextInt() : 1 + random.nextInt(6));
            case 1 -> tick(actor());
            case 2 -> deliver(place());
            case 3 -> lose(place());
            case 4 -> twice(place());
            case 5 -> turn(replica(), random.nextInt(100) < 30 + readyUp / 2);
            default -> lookOnce();
        }
    }

    private int replica() {
        return random.nextInt(60) == 0 ? ODD[random.nextInt(ODD.length)] : random.nextInt(model.n);
    }

    private int actor() {
        return random.nextInt(100) < steady ? 0 : replica();
    }

    private int place() {
        if (random.nextInt(80) == 0) {
            return random.nextBoolean() ? model.flight.size() : ODD[random.nextInt(ODD.length)];
        }
        int near = Math.min(widest, model.flight.size());
        return near == 0 ? 0 : random.nextInt(near);
    }

    private void same(String call, int a, int b, int got, int due) {
        if (got != due) {
            check.same("run " + run + ": " + call + "(" + a + ", " + b + ")", got, due);
        }
    }

    private void request(int r, int number) {
        made.add(y -> y.request(r, number));
        same("request", r, number, next().request(r, number) ? 1 : 0, model.request(r, number) ? 1 : 0);
    }

    private void tick(int r) {
        made.add(y -> y.tick(r));
        same("tick", r, 0, next().tick(r), model.tick(r));
    }

    private void deliver(int i) {
        int kind = model.deliver(i);
        made.add(y -> y.deliver(i));
        same("deliver", i, 0, next().deliver(i), kind);
        if (kind > 0) {
            kinds[kind]++;
        }
    }

    private void lose(int i) {
        made.add(y -> y.lose(i));
        same("lose", i, 0, next().lose(i) ? 1 : 0, model.lose(i) ? 1 : 0);
    }

    private void twice(int i) {
        made.add(y -> y.twice(i));
        same("twice", i, 0, next().twice(i) ? 1 : 0, model.twice(i) ? 1 : 0);
    }

    private void turn(int r, boolean up) {
        made.add(y -> y.turn(r, up));
        same("turn", r, up ? 1 : 0, next().turn(r, up) ? 1 : 0, model.turn(r, up) ? 1 : 0);
    }

    private void lookOnce() {
        int a = replica();
        switch (random.nextInt(5)) {
            case 0 -> lookAtReplica(a, random.nextInt(15) - 1);
            case 1 -> lookAtSlot(a, model.look(5) + 1 - random.nextInt(6));
            case 2 -> lookAtWaiting(a, random.nextInt(10) - 1);
            case 3 -> lookAtMessage(place(), random.nextInt(9) - 1);
            default -> look(random.nextInt(8) - 1);
        }
    }

    private void lookAtReplica(int r, int what) {
        same("replica", r, what, next().replica(r, what), model.replica(r, what));
    }

    private void lookAtSlot(int r, int slot) {
        same("slot", r, slot, next().slot(r, slot), model.slot(r, slot));
    }

    private void lookAtWaiting(int r, int i) {
        same("waiting", r, i, next().waiting(r, i), model.waiting(r, i));
    }

    private void lookAtMessage(int i, int what) {
        same("message", i, what, next().message(i, what), model.message(i, what));
    }

    private void look(int which) {
        same("look", which, 0, next().look(which), model.look(which));
    }

    /** The object for the next call. */
    private SlotPaxos next() {
        if (calls == CALLS) {
            x = new SlotPaxos(replicas, kept);
            for (Consumer<SlotPaxos> one : made) {
                one.accept(x);
            }
            calls = made.size();
        }
        calls++;
        return x;
    }

    private void lookAtAll() {
        for (int which = -1; which <= 6; which++) {
            look(which);
        }
        for (int r = 0; r < model.n; r++) {
            for (int what = -1; what <= 13; what++) {
                lookAtReplica(r, what);
            }
            for (int slot = -1; slot <= model.look(5) + 1; slot++) {
                lookAtSlot(r, slot);
            }
            for (int i = -1; i <= 8; i++) {
                lookAtWaiting(r, i);
            }
            for (int other = 0; other < r; other++) {
                if (next().replica(r, 1) == next().replica(other, 1)) {
                    same("SUM of two with the same INDEX", r, other, next().replica(r, 2), next().replica(other, 2));
                }
            }
        }
        for (int i = 0; i <= model.flight.size(); i++) {
            for (int what = -1; what <= 7; what++) {
                lookAtMessage(i, what);
            }
        }
    }
}
