/** Promise 6. */
public final class TwiceTest {
    private static final Check check = new Check();

    public static void main(String[] args) {
        doublesBehindAllOthers();
        doublesWhatAPromiseTells();
        refusesWrongPlaces();
        refusesAt200();
        check.end();
    }

    private static void doublesBehindAllOthers() {
        SlotPaxos x = new SlotPaxos(3, 2);
        x.request(1, 5);
        x.tick(1);
        x.tick(0);
        check.same("twice(0)", x.twice(0), true);
        check.inFlight("one more", x, 4);
        check.message("the first stays", x, 0, 1, 1, 0, 1, 1, 0, 0);
        check.message("the second stays", x, 1, 1, 1, 2, 1, 1, 0, 0);
        check.message("the third stays", x, 2, 6, 0, 1, 0, 1, 0, 0);
        check.message("behind all others", x, 3, 1, 1, 0, 1, 1, 0, 0);
        check.same("look(3)", x.look(3), 3);
        check.same("twice of the last", x.twice(3), true);
        check.message("once more", x, 4, 1, 1, 0, 1, 1, 0, 0);
    }

    private static void doublesWhatAPromiseTells() {
        SlotPaxos x = new SlotPaxos(3, 2);
        Drive.lead(x, 1, 5, 2);
        Drive.acceptAt(x, 1, 0);
        x.request(2, 6);
        x.tick(2);
        Drive.bring(x, Drive.PREPARE, 2, 0);
        x.twice(1);
        check.message("the same in all", x, 2, 2, 0, 2, 2, 1, 5, 1);
    }

    private static void refusesWrongPlaces() {
        SlotPaxos x = new SlotPaxos(3, 2);
        check.same("twice(0) of none", x.twice(0), false);
        x.tick(0);
        for (int i : new int[] {-1, 1, 200, Integer.MIN_VALUE, Integer.MAX_VALUE}) {
            check.same("twice(" + i + ")", x.twice(i), false);
        }
        check.inFlight("refused", x, 1);
    }

    private static void refusesAt200() {
        SlotPaxos x = new SlotPaxos(3, 2);
        x.tick(0);
        for (int i = 1; i < 200; i++) {
            check.same("twice to " + (i + 1), x.twice(i - 1), true);
        }
        check.inFlight("full", x, 200);
        check.same("twice(0) at 200", x.twice(0), false);
        check.same("twice(199) at 200", x.twice(199), false);
        check.inFlight("refused", x, 200);
        check.same("look(3): doubled ones were not sent", x.look(3), 1);
        check.same("look(4): none was lost", x.look(4), 0);
        x.lose(7);
        check.same("twice(0) at 199", x.twice(0), true);
    }
}
