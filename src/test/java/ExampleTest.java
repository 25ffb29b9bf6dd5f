/** The example of README.md, call by call. */
public final class ExampleTest {
    private static final Check check = new Check();

    public static void main(String[] args) {
        SlotPaxos x = new SlotPaxos(3, 8);
        check.same("request(0, 7)", x.request(0, 7), true);
        check.same("tick(0)", x.tick(0), 2);
        check.same("lose(1)", x.lose(1), true);
        deliverAll(x);
        check.same("slot(0, 1)", x.slot(0, 1), 7);

        check.same("turn(2, false)", x.turn(2, false), true);
        check.same("request(0, 9)", x.request(0, 9), true);
        check.same("tick(0)", x.tick(0), 2);
        deliverAll(x);
        check.same("slot(2, 2)", x.slot(2, 2), 0);

        check.same("turn(2, true)", x.turn(2, true), true);
        check.same("tick(2)", x.tick(2), 1);
        check.same("message(0, 0)", x.message(0, 0), 6);
        check.same("message(0, 2)", x.message(0, 2), 0);
        deliverAll(x);
        check.same("slot(2, 2)", x.slot(2, 2), 9);
        check.same("replica(2, 1)", x.replica(2, 1), 2);
        check.end();
    }

    private static void deliverAll(SlotPaxos x) {
        while (x.look(2) > 0) {
            x.deliver(0);
        }
    }
}
