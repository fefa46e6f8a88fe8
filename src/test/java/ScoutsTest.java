/** Promises 1 to 4 and 9: a new object, addPatrol, addScout, scout, count. */
public final class ScoutsTest {
    public static void main(String[] args) {
        newBookIsEmpty();
        patrolsAreNumberedUpToSix();
        scoutsAreNumberedUpToThirty();
        scoutTellsAllItsFacts();
        countTellsAllNumbers();
        Check.end();
    }

    private static void newBookIsEmpty() {
        CampBook book = new CampBook();
        for (int what = 0; what < 7; what++) {
            Check.numbers("new: count(" + what + ")", book.count(what), 0);
        }
        Check.numbers("new: day", book.day(), 0);
        Check.numbers("new: table(0)", book.table(0), 0);
        Check.numbers("new: table(1)", book.table(1), 0);
        Check.numbers("new: table(2)", book.table(2), -1);
        Check.numbers("new: findTents", book.findTents(), 0);
        Check.numbers("new: findDuties", book.findDuties(), 5);
        for (int day = 0; day <= 60; day++) {
            for (int kind = 0; kind < 5; kind++) {
                Check.numbers("new: duty", book.duty(day, kind), -1);
            }
        }
        Check.numbers("a second new book is one of its own", bookWithPatrol().count(0), 1);
        Check.numbers("the first has no patrol by it", book.count(0), 0);
    }

    private static CampBook bookWithPatrol() {
        CampBook book = new CampBook();
        book.addPatrol();
        return book;
    }

    private static void patrolsAreNumberedUpToSix() {
        CampBook book = new CampBook();
        for (int patrol = 0; patrol < 6; patrol++) {
            Check.numbers("addPatrol", book.addPatrol(), patrol);
        }
    }

    private static void scoutsAreNumberedUpToThirty() {
        CampBook book = bookWithPatrol();
        for (int scout = 0; scout < 30; scout++) {
            Check.numbers("addScout", book.addScout(0, 6 + scout % 12, scout * 8), scout);
            Check.numbers("it sleeps in no tent", book.scout(scout, 4), -1);
        }
    }

    private static void scoutTellsAllItsFacts() {
        CampBook book = bookWithPatrol();
        book.addPatrol();
        book.addScout(0, 9, 3);
        book.addScout(1, 16, 200);
        book.addTent(1);
        book.addTent(2);
        book.addFood(0);
        book.addFood(0);
        book.addBadge(6);
        book.addBadge(6);
        book.sleep(1, 1);
        book.diet(1, 1, false);
        book.practise(1, 0, 7);
        book.practise(1, 9, 24);
        book.earn(1, 1);
        int[] first = {0, 9, 3, 0, -1, 0, 0};
        int[] second = {1, 16, 200, 2, 1, 2, 31};
        for (int what = 0; what < 7; what++) {
            Check.numbers("scout(0, " + what + ")", book.scout(0, what), first[what]);
            Check.numbers("scout(1, " + what + ")", book.scout(1, what), second[what]);
        }
    }

    private static void countTellsAllNumbers() {
        CampBook book = bookWithPatrol();
        for (int i = 0; i < 5; i++) {
            book.addScout(0, 10, 0);
        }
        book.addTent(1);
        book.addTent(8);
        book.sleep(0, 0);
        book.sleep(4, 1);
        for (int i = 0; i < 4; i++) {
            book.addFood(i);
        }
        for (int i = 0; i < 6; i++) {
            book.addMeal();
        }
        for (int i = 0; i < 7; i++) {
            book.addBadge(10);
        }
        int[] due = {1, 5, 2, 3, 4, 6, 7};
        for (int what = 0; what < 7; what++) {
            Check.numbers("count(" + what + ")", book.count(what), due[what]);
        }
    }
}
