/** Promise 10. */
public final class WaitingTest {
    private static final Check check = new Check();

    public static void main(String[] args) {
        tellsThemInOrder();
        refusesWhatIsNot();
        isGoneWhenDown();
        tellsEachOfEight();
        check.end();
    }

    private static void tellsThemInOrder() {
        SlotPaxos x = new SlotPaxos(5, 2);
        int[] numbers = {9, 3, 9, 1, 7, 2, 8, 4};
        for (int number : numbers) {
            x.request(4, number);
        }
        for (int i = 0; i < numbers.length; i++) {
            check.same("waiting(4, " + i + ")", x.waiting(4, i), numbers[i]);
            check.same("waiting(0, " + i + ")", x.waiting(0, i), 0);
        }
        Drive.lead(x, 4, 5, 0, 1);
        for (int i = 0; i < numbers.length; i++) {
            check.same("proposed, waiting(4, " + i + ")", x.waiting(4, i), numbers[i]);
        }
        Drive.bring(x, Drive.ACCEPT, 4, 0);
        Drive.bring(x, Drive.ACCEPT, 4, 1);
        Drive.bring(x, Drive.ACCEPTED, 0, 4);
        Drive.bring(x, Drive.ACCEPTED, 1, 4);
        int[] left = {3, 1, 7, 2, 8, 4, 0, 0};
        for (int i = 0; i < left.length; i++) {
            check.same("9 is learned, waiting(4, " + i + ")", x.waiting(4, i), left[i]);
        }
        check.same("there is room for two", x.request(4, 10) && x.request(4, 11) && !x.request(4, 12), true);
        check.same("waiting(4, 7)", x.waiting(4, 7), 11);
    }

    private static void refusesWhatIsNot() {
        SlotPaxos x = new SlotPaxos(3, 2);
        x.request(0, 5);
        for (int i : new int[] {-1, 1, 7, 8, Integer.MIN_VALUE, Integer.MAX_VALUE}) {
            check.same("waiting(0, " + i + ")", x.waiting(0, i), 0);
        }
        for (int r : new int[] {-1, 3, Integer.MIN_VALUE, Integer.MAX_VALUE}) {
            check.same("waiting(" + r + ", 0)", x.waiting(r, 0), 0);
        }
    }

    private static void isGoneWhenDown() {
        SlotPaxos x = new SlotPaxos(3, 2);
        x.request(0, 5);
        x.turn(0, false);
        check.same("down", x.waiting(0, 0), 0);
        x.turn(0, true);
        check.same("up again", x.waiting(0, 0), 0);
        check.replica("up again", x, 0, 11, 0);
    }

    /** "WAITING number i of a REPLICA, from 0 on; 0 if there is none such": of 0, 1, 7 and 8. */
    private static void tellsEachOfEight() {
        SlotPaxos x = new SlotPaxos(3, 2);
        for (int count = 0; count <= 8; count++) {
            check.same("waiting(2, -1) of " + count, x.waiting(2, -1), 0);
            for (int i = 0; i <= 9; i++) {
                check.same("waiting(2, " + i + ") of " + count, x.waiting(2, i), i < count ? 30 + i : 0);
            }
            x.request(2, 30 + count);
        }
        check.same("waiting(3, 0)", x.waiting(3, 0), 0);
        check.same("waiting(-1, 0)", x.waiting(-1, 0), 0);
        check.same("waiting(1, 0)", x.waiting(1, 0), 0);
    }
}
