/** Calls that make the camps at whose edges the tests ask. */
final class Camps {
    static final int WATER = 0;
    static final int WOOD = 1;
    static final int COOKING = 2;
    static final int DISHES = 3;
    static final int WATCH = 4;
    static final long ALL = (1L << 30) - 1;

    private Camps() {
    }

    static void empty(CampBook book) {
    }

    /** One patrol with a scout of each age, without skills. */
    static Edge.Ahead of(int... ages) {
        return book -> {
            book.addPatrol();
            for (int age : ages) {
                book.addScout(0, age, 0);
            }
        };
    }

    /** Patrols with one scout each, of this age, without skills; with no scout for age 0. */
    static Edge.Ahead patrols(int... ages) {
        return book -> {
            for (int age : ages) {
                int patrol = book.addPatrol();
                if (age > 0) {
                    book.addScout(patrol, age, 0);
                }
            }
        };
    }

    /** A camp on day 1 where something of each kind is in use, and patrol 2, tent 2 and meal 2 are empty. */
    static void used(CampBook book) {
        for (int i = 0; i < 3; i++) {
            book.addPatrol();
        }
        book.addScout(0, 14, 2);
        book.addScout(0, 12, 1);
        book.addScout(0, 9, 0);
        book.addScout(1, 17, 3);
        book.addScout(1, 11, 255);
        book.addTent(2);
        book.addTent(1);
        book.addTent(8);
        book.sleep(0, 0);
        book.sleep(1, 0);
        book.sleep(3, 1);
        useDuties(book);
        useKitchen(book);
        useBadges(book);
    }

    private static void useDuties(CampBook book) {
        book.giveDuty(0, WATER, 1);
        book.end();
        book.giveDuty(1, WATCH, 0);
        book.giveDuty(1, COOKING, 1);
        book.giveDuty(2, WOOD, 1);
        book.giveDuty(60, DISHES, 0);
    }

    private static void useKitchen(CampBook book) {
        book.addFood(100);
        book.addFood(9);
        book.addFood(10000);
        book.diet(2, 1, false);
        for (int i = 0; i < 3; i++) {
            book.addMeal();
        }
        book.need(0, 0, 2);
        book.need(0, 2, 50);
        book.need(1, 1, 3);
        book.diet(4, 0, false);
        book.eat(0);
    }

    private static void useBadges(CampBook book) {
        book.addBadge(12);
        book.addBadge(6);
        book.want(0, 3, 10);
        book.want(1, 0, 5);
        book.want(1, 9, 1);
        book.practise(0, 3, 10);
        book.practise(1, 0, 4);
        book.earn(0, 0);
    }

    /** A camp that has the most of everything, each with something of its own. */
    static void full(CampBook book) {
        for (int patrol = 0; patrol < 6; patrol++) {
            book.addPatrol();
        }
        for (int scout = 0; scout < 30; scout++) {
            book.addScout(scout % 6, 6 + scout % 12, 8 * scout);
        }
        for (int tent = 0; tent < 10; tent++) {
            book.addTent(1 + tent % 8);
        }
        for (int food = 0; food < 12; food++) {
            book.addFood(900 * food);
        }
        for (int meal = 0; meal < 10; meal++) {
            book.addMeal();
        }
        for (int badge = 0; badge < 8; badge++) {
            book.addBadge(6 + badge);
        }
        book.sleep(29, 9);
        book.need(9, 11, 5);
        book.diet(29, 11, false);
        book.want(7, 9, 4);
        book.practise(5, 9, 4);
        book.giveDuty(0, WATCH, 5);
        book.eat(9);
    }
}
