import java.util.LinkedHashMap;
import java.util.Map;
import java.util.function.Supplier;

/** Clusters in all kinds of states, for tests of what holds in each of them. Each is made anew when it is asked for. */
final class Stories {
    private Stories() { }

    static Map<String, Supplier<SlotPaxos>> all() {
        Map<String, Supplier<SlotPaxos>> all = new LinkedHashMap<>();
        all.put("a new one of 3", () -> new SlotPaxos(3, 1));
        all.put("a new one of 5", () -> new SlotPaxos(5, 32));
        all.put("a candidate that was told of a number", Stories::candidate);
        all.put("a leader with a proposed number", Stories::leader);
        all.put("a leader without one", Stories::idleLeader);
        all.put("one that is down", Stories::oneDown);
        all.put("all are down", Stories::allDown);
        all.put("eight wait", Stories::eightWait);
        all.put("seven wait", Stories::sevenWait);
        all.put("behind a state", Stories::behindAState);
        all.put("199 in flight", () -> inFlight(199));
        all.put("200 in flight", () -> inFlight(200));
        all.put("201 were sent", () -> inFlight(201));
        for (int kind = 1; kind <= 8; kind++) {
            int which = kind;
            all.put("a message of kind " + kind, () -> withKind(which));
        }
        return all;
    }

    /** Replica 0 of 5 is a candidate of 5, and replica 1 has told it of 40, accepted with 1. */
    static SlotPaxos candidate() {
        SlotPaxos x = new SlotPaxos(5, 2);
        Drive.lead(x, 1, 40, 2, 3);
        Drive.loseAll(x);
        Drive.lead(x, 0, 50, 1);
        x.tick(3);
        return x;
    }

    /** Replica 3 of 4 leads with 3, 41 is proposed, and replica 0 has accepted it. */
    static SlotPaxos leader() {
        SlotPaxos x = new SlotPaxos(4, 2);
        Drive.lead(x, 3, 41, 0, 1);
        x.request(3, 42);
        Drive.bring(x, Drive.ACCEPT, 3, 0);
        Drive.bring(x, Drive.ACCEPTED, 0, 3);
        return x;
    }

    /** Replica 2 of 3 leads with 2 and all have learned 7. */
    static SlotPaxos idleLeader() {
        SlotPaxos x = new SlotPaxos(3, 3);
        Drive.learn(x, 2, 7);
        return x;
    }

    /** Replica 1 has gone down as a leader with numbers that waited, and what it had sent is in flight. */
    static SlotPaxos oneDown() {
        SlotPaxos x = new SlotPaxos(3, 2);
        Drive.learn(x, 1, 5);
        x.request(1, 6);
        x.request(1, 7);
        x.tick(1);
        Drive.bring(x, Drive.ACCEPT, 1, 2);
        x.turn(1, false);
        return x;
    }

    static SlotPaxos allDown() {
        SlotPaxos x = oneDown();
        x.turn(0, false);
        x.turn(2, false);
        return x;
    }

    static SlotPaxos eightWait() {
        SlotPaxos x = sevenWait();
        for (int r = 0; r < 3; r++) {
            x.request(r, 27);
        }
        return x;
    }

    static SlotPaxos sevenWait() {
        SlotPaxos x = new SlotPaxos(3, 2);
        for (int i = 0; i < 7; i++) {
            for (int r = 0; r < 3; r++) {
                x.request(r, 20 + i);
            }
        }
        x.tick(0);
        return x;
    }

    /** Replica 0 has INDEX 2 and SUM 161 by a state, and keeps no number. */
    static SlotPaxos behindAState() {
        SlotPaxos x = twoAhead();
        x.request(0, 9);
        x.tick(0);
        Drive.bring(x, Drive.PREPARE, 0, 1);
        Drive.bring(x, Drive.STATE, 1, 0);
        return x;
    }

    /** Replicas 1 and 2 have learned 5 and 6 and keep 6 alone; replica 0 was down, and is up with INDEX 0. */
    static SlotPaxos twoAhead() {
        SlotPaxos x = new SlotPaxos(3, 1);
        x.turn(0, false);
        Drive.learn(x, 1, 5);
        Drive.learn(x, 1, 6);
        x.turn(0, true);
        return x;
    }

    /** So many messages were sent by a cluster of 5, and none has come. */
    static SlotPaxos inFlight(int sent) {
        SlotPaxos x = new SlotPaxos(5, 2);
        x.request(2, 8);
        x.request(2, 9);
        for (int i = 0; i < sent / 4; i++) {
            x.tick(2);
        }
        for (int i = 0; i < sent % 4; i++) {
            x.tick(4);
        }
        return x;
    }

    /** The last message in flight is of that kind. */
    static SlotPaxos withKind(int kind) {
        SlotPaxos x = new SlotPaxos(3, 1);
        switch (kind) {
            case 1 -> Drive.lead(x, 1, 5);
            case 2 -> {
                Drive.lead(x, 1, 5);
                Drive.bring(x, Drive.PREPARE, 1, 0);
            }
            case 3 -> Drive.lead(x, 1, 5, 0);
            case 4 -> {
                Drive.lead(x, 1, 5, 0);
                Drive.bring(x, Drive.ACCEPT, 1, 0);
            }
            case 5 -> {
                Drive.lead(x, 1, 5, 0);
                Drive.bring(x, Drive.ACCEPT, 1, 0);
                Drive.bring(x, Drive.ACCEPTED, 0, 1);
            }
            case 6 -> {
                Drive.learn(x, 1, 5);
                x.turn(2, false);
                Drive.learn(x, 1, 6);
                x.turn(2, true);
                x.tick(2);
            }
            case 7 -> {
                Drive.lead(x, 1, 5);
                Drive.lead(x, 2, 6);
                Drive.bring(x, Drive.PREPARE, 1, 2);
            }
            default -> {
                x = twoAhead();
                x.request(0, 9);
                x.tick(0);
                Drive.bring(x, Drive.PREPARE, 0, 1);
            }
        }
        return x;
    }
}
