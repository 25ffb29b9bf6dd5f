/** Promise 5. */
public final class LoseTest {
    private static final Check check = new Check();

    public static void main(String[] args) {
        losesTheMessage();
        refusesWrongPlaces();
        losesAt200();
        check.end();
    }

    private static void losesTheMessage() {
        SlotPaxos x = new SlotPaxos(5, 2);
        for (int r = 0; r < 5; r++) {
            x.tick(r);
        }
        int[][] left = {{0, 1, 2, 3, 4}, {0, 2, 3, 4}, {0, 2, 3}, {2, 3}};
        int[] places = {1, 3, 0};
        for (int step = 0; step < places.length; step++) {
            check.same("lose(" + places[step] + ")", x.lose(places[step]), true);
            check.inFlight("one less", x, left[step + 1].length);
            for (int i = 0; i < left[step + 1].length; i++) {
                check.message("those that are left", x, i, 6, left[step + 1][i], (left[step + 1][i] + 1) % 5, 0, 1, 0, 0);
            }
        }
        check.same("look(3)", x.look(3), 5);
        check.same("look(4): that is not because there were 200", x.look(4), 0);

        SlotPaxos y = new SlotPaxos(3, 2);
        y.request(1, 5);
        y.tick(1);
        y.lose(0);
        check.replica("it has not come", y, 0, 4, 0);
        check.replica("it has not come", y, 0, 10, 0);
    }

    private static void refusesWrongPlaces() {
        SlotPaxos x = new SlotPaxos(3, 2);
        check.same("lose(0) of none", x.lose(0), false);
        x.tick(0);
        for (int i : new int[] {-1, 1, 200, Integer.MIN_VALUE, Integer.MAX_VALUE}) {
            check.same("lose(" + i + ")", x.lose(i), false);
        }
        check.inFlight("refused", x, 1);
        check.same("lose(0)", x.lose(0), true);
        check.same("lose(0) again", x.lose(0), false);
    }

    /** "Message i is lost: true; false if there is none such": the last of 200, and the one behind it. */
    private static void losesAt200() {
        SlotPaxos x = Stories.inFlight(200);
        check.same("lose(200)", x.lose(200), false);
        check.inFlight("refused", x, 200);
        check.same("lose(199)", x.lose(199), true);
        check.inFlight("lost", x, 199);
        check.same("lose(199) of 199", x.lose(199), false);
        check.same("lose(-1)", x.lose(-1), false);
        check.same("lose(0)", x.lose(0), true);
        check.message("the second is the first now", x, 0, 1, 2, 1, 2, 1, 0, 0);
        check.message("the last", x, 197, 1, 2, 3, 2, 1, 0, 0);
        check.same("behind the last", x.message(198, 0), -1);
        check.same("look(3)", x.look(3), 200);
        check.same("look(4)", x.look(4), 0);
    }
}
