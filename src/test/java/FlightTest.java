import java.util.Map;
import java.util.function.Supplier;

/** The messages in flight: how many there may be, in what order, and what becomes of them. */
public final class FlightTest {
    private static final Check check = new Check();

    public static void main(String[] args) {
        holdsUpTo200();
        losesWhatIsSentAt200();
        losesTheLastOfAll();
        losesAnswersAt200();
        losesAcceptsOfANewLeader();
        losesChosenAndAccepts();
        goesToEachOtherLeastFirst();
        isGoneWhereItsReceiverIsDown();
        hasZeroWhereThereIsNone();
        check.end();
    }

    private static void counts(String when, SlotPaxos x, int inFlight, int sent, int lost) {
        check.same(when + ": look(2)", x.look(2), inFlight);
        check.same(when + ": look(3)", x.look(3), sent);
        check.same(when + ": look(4)", x.look(4), lost);
    }

    /** "MESSAGES are in FLIGHT, up to 200, in the order in which they were sent". */
    private static void holdsUpTo200() {
        SlotPaxos x = new SlotPaxos(3, 2);
        for (int i = 0; i < 199; i++) {
            x.tick(i % 3);
        }
        counts("199", x, 199, 199, 0);
        check.same("message(199, 0)", x.message(199, 0), -1);
        check.same("the 200th", x.tick(2), 200);
        counts("200", x, 200, 200, 0);
        for (int i = 0; i < 199; i++) {
            check.same("sender of " + i, x.message(i, 1), i % 3);
        }
        check.message("the 200th", x, 199, 6, 2, 0, 0, 1, 0, 0);
    }

    /** "one that is sent when there are 200 is lost". */
    private static void losesWhatIsSentAt200() {
        SlotPaxos x = new SlotPaxos(3, 2);
        for (int i = 0; i < 200; i++) {
            x.tick(0);
        }
        check.same("the 201st", x.tick(1), 200);
        counts("the 201st", x, 200, 201, 1);
        check.message("the last is the 200th", x, 199, 6, 0, 1, 0, 1, 0, 0);
        check.same("message(200, 0)", x.message(200, 0), -1);
        x.lose(0);
        counts("one was lost, but not for that", x, 199, 201, 1);
        check.same("there is room again", x.tick(2), 200);
        counts("room again", x, 200, 202, 1);
        check.message("behind all others", x, 199, 6, 2, 0, 0, 1, 0, 0);
    }

    /** Of those that go to ALL, the first ones find room. */
    private static void losesTheLastOfAll() {
        for (int before = 195; before <= 200; before++) {
            SlotPaxos x = new SlotPaxos(5, 2);
            for (int i = 0; i < before; i++) {
                x.tick(4);
            }
            x.request(1, 5);
            int room = Math.min(4, 200 - before);
            check.same("tick at " + before, x.tick(1), before + room);
            counts("tick at " + before, x, before + room, before + 4, 4 - room);
            int[] receivers = {0, 2, 3, 4};
            for (int i = 0; i < room; i++) {
                check.message("tick at " + before, x, before + i, 1, 1, receivers[i], 1, 1, 0, 0);
            }
            check.replica("it is candidate all the same", x, 1, 7, 1);
            check.replica("it has promised all the same", x, 1, 4, 1);
        }
    }

    /** A message that comes is in flight no more: one answer finds room where there were 200. */
    private static void losesAnswersAt200() {
        SlotPaxos x = Stories.inFlight(200);
        check.same("a prepare comes", x.deliver(0), 1);
        counts("a promise has room", x, 200, 201, 0);
        check.message("promise", x, 199, 2, 0, 2, 2, 1, 0, 0);
        check.same("tick", x.tick(4), 200);
        counts("an ask has none", x, 200, 202, 1);
        check.message("promise", x, 199, 2, 0, 2, 2, 1, 0, 0);
    }

    private static void losesAcceptsOfANewLeader() {
        SlotPaxos x = Stories.inFlight(200);
        x.deliver(0);
        x.deliver(0);
        check.message("promise of 0", x, 198, 2, 0, 2, 2, 1, 0, 0);
        check.message("promise of 1", x, 199, 2, 1, 2, 2, 1, 0, 0);
        x.deliver(199);
        x.tick(4);
        counts("200 again", x, 200, 203, 0);
        x.deliver(198);
        counts("one accept of four has room", x, 200, 207, 3);
        check.message("accept", x, 199, 3, 2, 0, 2, 1, 8, 0);
        int[] due = {1, 0, 0, 0, 2, 2, 8, 2, 2, 4, 2, 2, 8};
        check.replica("it leads all the same", x, 2, due);
    }

    private static void losesChosenAndAccepts() {
        SlotPaxos x = new SlotPaxos(3, 2);
        Drive.lead(x, 1, 5, 0);
        x.request(1, 6);
        Drive.bring(x, Drive.ACCEPT, 1, 0);
        int fill = 200 - x.look(2);
        int sent = x.look(3) + fill;
        for (int i = 0; i < fill; i++) {
            x.tick(2);
        }
        counts("full", x, 200, sent, 0);
        Drive.bring(x, Drive.ACCEPTED, 0, 1);
        counts("one of two chosen has room, no accept", x, 200, sent + 4, 3);
        check.message("chosen", x, 199, 5, 1, 0, 0, 1, 5, 0);
        int[] due = {1, 1, 5, 0, 1, 1, 6, 2, 1, 2, 1, 1, 6};
        check.replica("it learns and proposes all the same", x, 1, due);
    }

    /** "To ALL is: to each other REPLICA, the one with the least number first". */
    private static void goesToEachOtherLeastFirst() {
        for (int n = 3; n <= 5; n++) {
            for (int r = 0; r < n; r++) {
                SlotPaxos x = new SlotPaxos(n, 2);
                int b = r == 0 ? n : r;
                x.request(r, 5);
                x.tick(r);
                toAll("prepare", x, r, 1, b, 0);
                for (int other = 0; other < n; other++) {
                    if (other != r && x.replica(r, 7) == 1) {
                        Drive.bring(x, Drive.PREPARE, r, other);
                        Drive.bring(x, Drive.PROMISE, other, r);
                    }
                }
                toAll("accept", x, r, 3, b, 5);
                for (int other = 0; other < n; other++) {
                    if (other != r && x.replica(r, 1) == 0) {
                        Drive.bring(x, Drive.ACCEPT, r, other);
                        Drive.bring(x, Drive.ACCEPTED, other, r);
                    }
                }
                toAll("chosen", x, r, 5, 0, 5);
            }
        }
    }

    /** The last messages in flight. */
    private static void toAll(String when, SlotPaxos x, int from, int kind, int ballot, int number) {
        int n = x.look(0);
        int i = x.look(2) - (n - 1);
        for (int to = 0; to < n; to++) {
            if (to != from) {
                check.message(when + " of " + from + " of " + n, x, i, kind, from, to, ballot, 1, number, 0);
                i++;
            }
        }
    }

    /** "Those that come to a REPLICA that is DOWN are gone": as if they were lost, but for the answer. */
    private static void isGoneWhereItsReceiverIsDown() {
        for (int kind = 1; kind <= 8; kind++) {
            int which = kind;
            SlotPaxos told = Stories.withKind(kind);
            int last = told.look(2) - 1;
            int to = told.message(last, 2);
            check.same("the last is of kind " + kind, told.message(last, 0), kind);
            Supplier<SlotPaxos> down = () -> {
                SlotPaxos x = Stories.withKind(which);
                x.turn(to, false);
                return x;
            };
            check.same("kind " + kind + " comes to one that is down", down.get().deliver(last), kind);
            Supplier<SlotPaxos> come = () -> deliver(down.get(), last);
            Supplier<SlotPaxos> lost = () -> lose(down.get(), last);
            check.samePicture("kind " + kind, come, lost);
            check.samePicture("kind " + kind + ", up again", () -> up(come.get(), to), () -> up(lost.get(), to));
            // And the other side: to one that is up each kind here makes a difference.
            SlotPaxos gone = lose(Stories.withKind(kind), last);
            SlotPaxos here = deliver(Stories.withKind(kind), last);
            check.same("kind " + kind + " does something", differs(gone, here, to), true);
        }
    }

    private static boolean differs(SlotPaxos x, SlotPaxos y, int r) {
        boolean differs = x.look(3) != y.look(3);
        for (int what = 0; what <= 12; what++) {
            differs |= x.replica(r, what) != y.replica(r, what);
        }
        return differs;
    }

    private static SlotPaxos deliver(SlotPaxos x, int i) {
        x.deliver(i);
        return x;
    }

    private static SlotPaxos lose(SlotPaxos x, int i) {
        x.lose(i);
        return x;
    }

    private static SlotPaxos up(SlotPaxos x, int r) {
        x.turn(r, true);
        return x;
    }

    /** "a BALLOT (0 for kinds 5, 6 and 8), a slot (0 for kind 7), a number (0 where there is none)". */
    private static void hasZeroWhereThereIsNone() {
        for (Map.Entry<String, Supplier<SlotPaxos>> entry : Stories.all().entrySet()) {
            SlotPaxos x = entry.getValue().get();
            for (int i = 0; i < Math.min(40, x.look(2)); i++) {
                String when = entry.getKey() + ": message " + i;
                int kind = x.message(i, 0);
                check.same(when + " has a ballot", x.message(i, 3) > 0, kind != 5 && kind != 6 && kind != 8);
                check.same(when + " has a slot", x.message(i, 4) > 0, kind != 7);
                check.same(when + " has a number", x.message(i, 5) != 0, kind == 3 || kind == 5 || kind == 8);
                check.same(when + " tells a ballot", x.message(i, 6), 0);
            }
        }
        int[][] rows = {{}, {1, 1, 2, 1, 1, 0, 0}, {2, 0, 1, 1, 1, 0, 0}, {3, 1, 2, 1, 1, 5, 0}, {4, 0, 1, 1, 1, 0, 0},
            {5, 1, 2, 0, 1, 5, 0}, {6, 2, 0, 0, 2, 0, 0}, {7, 2, 1, 2, 0, 0, 0}, {8, 1, 0, 0, 2, 161, 0}};
        for (int kind = 1; kind <= 8; kind++) {
            SlotPaxos x = Stories.withKind(kind);
            check.message("kind " + kind, x, x.look(2) - 1, rows[kind]);
        }
    }
}
