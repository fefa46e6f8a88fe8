/** Promises 10 to 13: giveDuty, duty, points, findDuties. */
public final class DutiesTest {
    private static final int WATER = 0;
    private static final int WOOD = 1;
    private static final int COOKING = 2;
    private static final int DISHES = 3;
    private static final int WATCH = 4;

    public static void main(String[] args) {
        dutiesChangeHands();
        pointsAreThoseOfTheKinds();
        patrolsDoWhatTheyCan();
        kindsAreDoneEverySecondDay();
        dutiesArePlannedFromTodayOn();
        findDutiesTakesTheFewestPoints();
        findDutiesKeepsWhatIsGiven();
        findDutiesLooksAtTheNextDay();
        Check.end();
    }

    /** A book with a patrol for each age, with one scout of this age; with none for age 0. */
    private static CampBook book(int... ages) {
        CampBook book = new CampBook();
        for (int age : ages) {
            int patrol = book.addPatrol();
            if (age > 0) {
                book.addScout(patrol, age, 0);
            }
        }
        return book;
    }

    private static void dutiesChangeHands() {
        CampBook book = book(10, 10);
        Check.numbers("none had it", book.giveDuty(3, WATER, 0), -1);
        Check.numbers("it has it", book.duty(3, WATER), 0);
        Check.numbers("its points", book.points(0), 2);
        Check.numbers("the same again", book.giveDuty(3, WATER, 0), 0);
        Check.numbers("its points are the same", book.points(0), 2);
        Check.numbers("to the other", book.giveDuty(3, WATER, 1), 0);
        Check.numbers("the other has it", book.duty(3, WATER), 1);
        Check.numbers("the points go", book.points(0), 0);
        Check.numbers("the points come", book.points(1), 2);
        Check.numbers("to none", book.giveDuty(3, WATER, -1), 1);
        Check.numbers("none has it", book.duty(3, WATER), -1);
        Check.numbers("no points", book.points(1), 0);
        Check.numbers("to none again", book.giveDuty(3, WATER, -1), -1);
    }

    private static void pointsAreThoseOfTheKinds() {
        CampBook book = book(12);
        int[] points = {2, 3, 4, 2, 5};
        int sum = 0;
        for (int kind = 0; kind < 5; kind++) {
            book.giveDuty(kind * 15, kind, 0);
            sum += points[kind];
            Check.numbers("points with kind " + kind, book.points(0), sum);
        }
        book.end();
        Check.numbers("past days count too", book.points(0), 16);
    }

    private static void patrolsDoWhatTheyCan() {
        CampBook book = book(11, 12);
        Check.numbers("old enough for the watch", book.giveDuty(0, WATCH, 1), -1);
        Check.numbers("another kind on the next day", book.giveDuty(1, COOKING, 1), -1);
        book.addScout(0, 12, 0);
        Check.numbers("one scout of 12 is enough", book.giveDuty(0, WATCH, 0), 1);
    }

    private static void kindsAreDoneEverySecondDay() {
        CampBook book = book(12, 12);
        book.giveDuty(5, WOOD, 0);
        Check.numbers("two days before", book.giveDuty(3, WOOD, 0), -1);
        Check.numbers("two days behind", book.giveDuty(7, WOOD, 0), -1);
        Check.numbers("the other one between", book.giveDuty(4, WOOD, 1), -1);
        book.giveDuty(60, DISHES, 1);
        Check.numbers("the last day has it", book.duty(60, DISHES), 1);
    }

    private static void dutiesArePlannedFromTodayOn() {
        CampBook book = book(12);
        book.giveDuty(0, WATER, 0);
        book.end();
        Check.numbers("it is still told", book.duty(0, WATER), 0);
        Check.numbers("today", book.giveDuty(1, WOOD, 0), -1);
    }

    private static void findDutiesTakesTheFewestPoints() {
        CampBook book = book(11, 12, 13, 10);
        book.giveDuty(20, WATER, 1);
        Check.numbers("one kind is left", book.findDuties(), 1);
        Check.numbers("WATCH: the fewest points of those old enough", book.duty(0, WATCH), 2);
        Check.numbers("COOKING: the smallest number of 0 points", book.duty(0, COOKING), 0);
        Check.numbers("WOOD: the next of 0 points", book.duty(0, WOOD), 3);
        Check.numbers("WATER: the one that is left", book.duty(0, WATER), 1);
        Check.numbers("DISHES: none is left", book.duty(0, DISHES), -1);
        book.end();
        Check.numbers("one kind is left again", book.findDuties(), 1);
        Check.numbers("WATCH of day 1", book.duty(1, WATCH), 1);
        Check.numbers("COOKING of day 1", book.duty(1, COOKING), 3);
        Check.numbers("WOOD of day 1", book.duty(1, WOOD), 0);
        Check.numbers("WATER of day 1", book.duty(1, WATER), 2);
    }

    private static void findDutiesKeepsWhatIsGiven() {
        CampBook book = book(12, 12, 12, 12, 12, 12);
        book.giveDuty(0, WATCH, 5);
        book.giveDuty(0, WATER, 0);
        Check.numbers("all are done", book.findDuties(), 0);
        Check.numbers("WATCH stays", book.duty(0, WATCH), 5);
        Check.numbers("WATER stays", book.duty(0, WATER), 0);
        Check.numbers("COOKING", book.duty(0, COOKING), 1);
        Check.numbers("WOOD", book.duty(0, WOOD), 2);
        Check.numbers("DISHES", book.duty(0, DISHES), 3);
        Check.numbers("nothing else is to be found", book.findDuties(), 0);
    }

    private static void findDutiesLooksAtTheNextDay() {
        CampBook book = book(12, 12);
        book.giveDuty(0, DISHES, 1);
        book.giveDuty(1, WATCH, 0);
        Check.numbers("four are left, but for COOKING", book.findDuties(), 3);
        Check.numbers("WATCH is not for it", book.duty(0, WATCH), -1);
        Check.numbers("COOKING is", book.duty(0, COOKING), 0);
    }
}
