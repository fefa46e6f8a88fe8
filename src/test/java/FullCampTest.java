/** A camp that has the most of everything: the last numbers of all kinds answer as the others do. */
public final class FullCampTest {
    private static final long ALL = (1L << 30) - 1;

    public static void main(String[] args) {
        countsAreTheGreatest();
        tentsAreFound();
        dutiesAreFound();
        mealsAreEaten();
        badgesAreEarned();
        hikesAreTold();
        digestIsTold();
        Check.end();
    }

    private static CampBook fullCamp() {
        CampBook book = new CampBook();
        for (int patrol = 0; patrol < 6; patrol++) {
            book.addPatrol();
        }
        for (int scout = 0; scout < 30; scout++) {
            book.addScout(scout / 5, 14, scout == 29 ? 2 : 0);
        }
        for (int tent = 0; tent < 10; tent++) {
            book.addTent(3);
        }
        for (int food = 0; food < 12; food++) {
            book.addFood(10000);
        }
        for (int meal = 0; meal < 10; meal++) {
            book.addMeal();
            book.need(meal, 11, meal + 1);
        }
        for (int badge = 0; badge < 8; badge++) {
            book.addBadge(14);
            book.want(badge, 9, badge);
        }
        return book;
    }

    private static void countsAreTheGreatest() {
        int[] due = {6, 30, 10, 30, 12, 10, 8};
        for (int what = 0; what < 7; what++) {
            Check.numbers("count(" + what + ")", fullCamp().count(what), due[what]);
        }
        Check.same("meanAge", fullCamp().meanAge(), 14.0);
    }

    private static void tentsAreFound() {
        CampBook book = fullCamp();
        Check.numbers("all find one", book.findTents(), 0);
        for (int tent = 0; tent < 10; tent++) {
            Check.numbers("three by three", book.inTent(tent), 7L << 3 * tent);
        }
        Check.numbers("the last one's", book.scout(29, 4), 9);
        Check.numbers("the last one goes out", book.sleep(29, -1), 9);
        Check.numbers("and finds none but its own", book.findTents(), 0);
        Check.numbers("its own", book.scout(29, 4), 9);
    }

    private static void dutiesAreFound() {
        CampBook book = fullCamp();
        Check.numbers("all are done", book.findDuties(), 0);
        int[] due = {3, 2, 1, 4, 0};
        int[] points = {5, 4, 3, 2, 2, 0};
        for (int kind = 0; kind < 5; kind++) {
            Check.numbers("kind " + kind, book.duty(0, kind), due[kind]);
        }
        for (int patrol = 0; patrol < 6; patrol++) {
            Check.numbers("points", book.points(patrol), points[patrol]);
        }
        for (int day = 0; day < 60; day++) {
            book.end();
            Check.numbers("all are done on each day", book.findDuties(), 0);
        }
    }

    private static void mealsAreEaten() {
        CampBook book = fullCamp();
        Check.numbers("all can eat it", book.eaters(9), ALL);
        Check.numbers("what it lacks", book.lacks(9, 11, 100), 20000);
        book.diet(29, 11, false);
        Check.numbers("all but the last", book.eaters(9), ALL >> 1);
        book.need(9, 11, 0);
        book.need(9, 0, 1);
        Check.numbers("the last meal is the best", book.table(2), 9);
        Check.numbers("all eat", book.eat(9), 30);
        Check.numbers("all but the last eat", book.eat(8), 29);
        Check.numbers("the last store", book.store(11), 10000 - 29 * 9);
        Check.numbers("nobody is hungry", book.table(0), 0);
    }

    private static void badgesAreEarned() {
        CampBook book = fullCamp();
        Check.numbers("five get the hours", book.practise(5, 9, 7), 5);
        for (int badge = 0; badge < 8; badge++) {
            Check.numbers("the last scout lacks none", book.away(29, badge), 0);
            Check.numbers("it earns all", book.earn(29, badge), badge + 1);
            Check.numbers("the first lacks all", book.away(0, badge), badge);
        }
        Check.numbers("its badges", book.scout(29, 5), 255);
        Check.numbers("its hours", book.scout(29, 6), 7);
    }

    private static void hikesAreTold() {
        CampBook book = fullCamp();
        Check.numbers("all go", book.hike(ALL, 1, 0), 12);
        Check.numbers("the last one goes", book.hike(1L << 29, 1, 0), 12);
    }

    private static void digestIsTold() {
        CampBook book = fullCamp();
        long d = 353;
        long[] head = {0, 6, 30, 10, 30, 12, 10, 8, 0, 0, 0, 0, 0, 0};
        for (long x : head) {
            d = d * 31 + x;
        }
        for (int scout = 0; scout < 30; scout++) {
            long[] facts = {scout / 5, 14, scout == 29 ? 2 : 0, 0, -1, 0, 0};
            for (long x : facts) {
                d = d * 31 + x;
            }
        }
        for (int i = 0; i < 39; i++) {
            long x = i < 10 ? 0 : i < 15 ? -1 : i < 27 ? 10000 : i < 37 ? ALL : i == 37 ? 30 : 0;
            d = d * 31 + x;
        }
        Check.numbers("digest", book.digest(), d);
    }
}
