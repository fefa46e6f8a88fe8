/** Promises 30 to 33: end, day, meanAge, digest. */
public final class DaysTest {
    public static void main(String[] args) {
        daysEndUpToSixty();
        nextDayHasNoMeals();
        meanAgeIsTheMean();
        digestOfANewBook();
        digestTakesAllNumbersInOrder();
        Check.end();
    }

    private static void daysEndUpToSixty() {
        CampBook book = new CampBook();
        for (int day = 1; day <= 60; day++) {
            Check.numbers("end", book.end(), day);
            Check.numbers("day", book.day(), day);
        }
        book.addPatrol();
        book.addScout(0, 12, 0);
        Check.numbers("duties of the last day", book.findDuties(), 4);
        Check.numbers("the watch of the last day", book.duty(60, 4), 0);
    }

    private static void nextDayHasNoMeals() {
        CampBook book = fullBook();
        Check.numbers("one ate", book.table(0), 1);
        Check.numbers("one meal", book.table(1), 1);
        book.end();
        Check.numbers("none ate", book.table(0), 2);
        Check.numbers("no meal", book.table(1), 0);
    }

    private static void meanAgeIsTheMean() {
        CampBook book = new CampBook();
        Check.same("no scouts", book.meanAge(), 0.0);
        book.addPatrol();
        book.addScout(0, 17, 0);
        Check.same("one scout", book.meanAge(), 17.0);
        book.addScout(0, 6, 0);
        Check.same("two scouts", book.meanAge(), 11.5);
        book.addScout(0, 6, 0);
        Check.same("three scouts", book.meanAge(), 29.0 / 3);
    }

    private static long fold(long... numbers) {
        long d = 353;
        for (long x : numbers) {
            d = d * 31 + x;
        }
        return d;
    }

    private static void digestOfANewBook() {
        Check.same("a new book",
                new CampBook().digest(),
                fold(0, 0, 0, 0, 0, 0, 0, 0, -1, -1, -1, -1, -1, 0, 0));
    }

    /** Each part of the digest has a value of its own here. */
    private static CampBook fullBook() {
        CampBook book = new CampBook();
        book.end();
        book.addPatrol();
        book.addPatrol();
        book.addScout(1, 10, 129);
        book.addScout(0, 13, 2);
        book.addTent(2);
        book.addTent(1);
        book.addTent(4);
        book.sleep(0, 2);
        book.giveDuty(1, 4, 0);
        book.giveDuty(1, 2, 1);
        book.giveDuty(9, 1, 1);
        book.addFood(70);
        book.addFood(500);
        book.addFood(9);
        book.addFood(10000);
        book.diet(1, 2, false);
        for (int meal = 0; meal < 5; meal++) {
            book.addMeal();
        }
        book.need(0, 2, 1);
        book.need(1, 0, 3);
        book.addBadge(13);
        book.addBadge(6);
        book.want(1, 3, 20);
        book.practise(0, 3, 20);
        book.earn(1, 0);
        book.earn(1, 1);
        book.eat(0);
        return book;
    }

    private static void digestTakesAllNumbersInOrder() {
        Check.same("a full book",
                fullBook().digest(),
                fold(1,
                        2, 2, 3, 1, 4, 5, 2,
                        5, 7,
                        1, 10, 129, 0, 2, 0, 0,
                        0, 13, 2, 4, -1, 3, 20,
                        0, 0, 1,
                        -1, -1, 1, -1, 0,
                        70, 500, 8, 10000,
                        1, 3, 3, 3, 3,
                        1, 1));
    }
}
