/** Promises 1 to 4 and 9: a new object, addPatrol, addScout, scout, count. */
public final class ScoutsTest {
    public static void main(String[] args) {
        newBookIsEmpty();
        patrolsAreNumberedUpToSix();
        scoutsAreNumberedUpToThirty();
        scoutsAreRefusedInTheNamedOrder();
        scoutTellsAllItsFacts();
        countTellsAllNumbers();
        Check.end();
    }

    private static void newBookIsEmpty() {
        CampBook book = new CampBook();
        for (int what = 0; what < 7; what++) {
            Check.numbers("new: count(" + what + ")", book.count(what), 0);
        }
        Check.numbers("new: day", book.day(), 0);
        Check.numbers("new: table(0)", book.table(0), 0);
        Check.numbers("new: table(1)", book.table(1), 0);
        Check.numbers("new: table(2)", book.table(2), -1);
        Check.numbers("new: findTents", book.findTents(), 0);
        Check.numbers("new: findDuties", book.findDuties(), 5);
        for (int day = 0; day <= 60; day++) {
            for (int kind = 0; kind < 5; kind++) {
                Check.numbers("new: duty", book.duty(day, kind), -1);
            }
        }
        Check.numbers("a second new book is one of its own", bookWithPatrol().count(0), 1);
        Check.numbers("the first has no patrol by it", book.count(0), 0);
    }

    private static CampBook bookWithPatrol() {
        CampBook book = new CampBook();
        book.addPatrol();
        return book;
    }

    private static void patrolsAreNumberedUpToSix() {
        CampBook book = new CampBook();
        for (int patrol = 0; patrol < 6; patrol++) {
            Check.numbers("addPatrol", book.addPatrol(), patrol);
        }
        Check.refuses(book, Check.STATE, "the seventh patrol", () -> book.addPatrol());
    }

    private static void scoutsAreNumberedUpToThirty() {
        CampBook book = bookWithPatrol();
        for (int scout = 0; scout < 30; scout++) {
            Check.numbers("addScout", book.addScout(0, 6 + scout % 12, scout * 8), scout);
            Check.numbers("it sleeps in no tent", book.scout(scout, 4), -1);
        }
        Check.refuses(book, Check.STATE, "the scout 30", () -> book.addScout(0, 10, 0));
        Check.refuses(book, Check.ARGUMENT, "a wrong age comes first", () -> book.addScout(0, 5, 0));
        Check.refuses(book, Check.INDEX, "a wrong patrol comes first", () -> book.addScout(1, 5, 0));
    }

    private static void scoutsAreRefusedInTheNamedOrder() {
        CampBook book = new CampBook();
        Check.refuses(book, Check.INDEX, "no patrol yet", () -> book.addScout(0, 10, 0));
        book.addPatrol();
        int[] wrongPatrols = {-1, 1, 6, Integer.MAX_VALUE, Integer.MIN_VALUE};
        for (int patrol : wrongPatrols) {
            Check.refuses(book, Check.INDEX, "patrol " + patrol, () -> book.addScout(patrol, 0, -1));
        }
        int[] wrongAges = {5, 18, -1, 0, Integer.MAX_VALUE, Integer.MIN_VALUE};
        for (int age : wrongAges) {
            Check.refuses(book, Check.ARGUMENT, "age " + age, () -> book.addScout(0, age, 0));
        }
        int[] wrongSkills = {-1, 256, Integer.MAX_VALUE, Integer.MIN_VALUE};
        for (int skills : wrongSkills) {
            Check.refuses(book, Check.ARGUMENT, "skills " + skills, () -> book.addScout(0, 10, skills));
        }
        Check.numbers("the least age", book.addScout(0, 6, 0), 0);
        Check.numbers("the greatest age", book.addScout(0, 17, 255), 1);
    }

    private static void scoutTellsAllItsFacts() {
        CampBook book = bookWithPatrol();
        book.addPatrol();
        book.addScout(0, 9, 3);
        book.addScout(1, 16, 200);
        book.addTent(1);
        book.addTent(2);
        book.addFood(0);
        book.addFood(0);
        book.addBadge(6);
        book.addBadge(6);
        book.sleep(1, 1);
        book.diet(1, 1, false);
        book.practise(1, 0, 7);
        book.practise(1, 9, 24);
        book.earn(1, 1);
        int[] first = {0, 9, 3, 0, -1, 0, 0};
        int[] second = {1, 16, 200, 2, 1, 2, 31};
        for (int what = 0; what < 7; what++) {
            Check.numbers("scout(0, " + what + ")", book.scout(0, what), first[what]);
            Check.numbers("scout(1, " + what + ")", book.scout(1, what), second[what]);
        }
        int[] wrongScouts = {-1, 2, 30, Integer.MAX_VALUE, Integer.MIN_VALUE};
        for (int scout : wrongScouts) {
            Check.refuses(book, Check.INDEX, "scout " + scout, () -> book.scout(scout, 0));
        }
        int[] wrongFacts = {-1, 7, Integer.MAX_VALUE, Integer.MIN_VALUE};
        for (int what : wrongFacts) {
            Check.refuses(book, Check.INDEX, "what " + what, () -> book.scout(0, what));
        }
    }

    private static void countTellsAllNumbers() {
        CampBook book = bookWithPatrol();
        for (int i = 0; i < 5; i++) {
            book.addScout(0, 10, 0);
        }
        book.addTent(1);
        book.addTent(8);
        book.sleep(0, 0);
        book.sleep(4, 1);
        for (int i = 0; i < 4; i++) {
            book.addFood(i);
        }
        for (int i = 0; i < 6; i++) {
            book.addMeal();
        }
        for (int i = 0; i < 7; i++) {
            book.addBadge(10);
        }
        int[] due = {1, 5, 2, 3, 4, 6, 7};
        for (int what = 0; what < 7; what++) {
            Check.numbers("count(" + what + ")", book.count(what), due[what]);
        }
        int[] wrong = {-1, 7, Integer.MAX_VALUE, Integer.MIN_VALUE};
        for (int what : wrong) {
            Check.refuses(book, Check.INDEX, "count(" + what + ")", () -> book.count(what));
        }
    }
}
