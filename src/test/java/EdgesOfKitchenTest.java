/** The edges of promises 14 to 23: addFood, buy, store, diet, addMeal, need, eaters, lacks, eat, table. */
public final class EdgesOfKitchenTest {
    public static void main(String[] args) {
        storesBeginInTheirRange();
        foodsAreAtMostTwelve();
        buyNeedsAFood();
        unitsAreOneToTenThousand();
        storesGrowUpToTenThousand();
        firstNamedExceptionOfBuy();
        storeNeedsAFood();
        dietNeedsAScoutAndAFood();
        dietTellsWhatWasBefore();
        mealsAreAtMostTen();
        needNeedsAMealAndAFood();
        needsAreZeroToFifty();
        needTakesFoodsOffTheMeal();
        eatersNeedAMeal();
        eatersTellEmptyAndFullSets();
        lacksNeedsAMealAndAFood();
        timesAreOneToHundred();
        lacksGoesFromNothingToTheMost();
        eatNeedsAMeal();
        threeMealsAreEatenADay();
        mealsNeedFoods();
        mealsNeedEaters();
        mealsNeedStores();
        tableTellsThreeThings();
        tableTellsWhoAteNothing();
        tableTellsNoMealIfThereIsNone();
        tableTellsTheMealForTheMost();
        Check.end();
    }

    /** So many scouts, a food with this store, and a meal that needs these units of it. */
    private static Edge.Ahead meal(int scouts, int store, int units) {
        return book -> {
            book.addPatrol();
            for (int i = 0; i < scouts; i++) {
                book.addScout(0, 10, 0);
            }
            book.addFood(store);
            book.addMeal();
            book.need(0, 0, units);
        };
    }

    private static Edge.Ahead refusedBy(int... scouts) {
        return book -> {
            for (int scout : scouts) {
                book.diet(scout, 0, false);
            }
        };
    }

    private static void storesBeginInTheirRange() {
        Check.sentence("Promise 14", "Throws `IllegalArgumentException` if store is not 0 to 10000");
        Edge.range("store", Edge.ARGUMENT, 0, 10000, Camps::empty, CampBook::addFood);
        Edge.range("in a used book, store", Edge.ARGUMENT, 0, 10000, Camps::used, CampBook::addFood);
        for (int store : new int[] {0, 1, 9999, 10000}) {
            Edge.answers("store " + store + " is kept", store, b -> b.addFood(store), b -> b.store(0));
        }
    }

    private static void foodsAreAtMostTwelve() {
        Check.sentence("Promise 14", "Throws `IllegalStateException` if there are 12");
        CampBook book = new CampBook();
        for (int food = 0; food < 12; food++) {
            Check.numbers("food " + food, book.addFood(food), food);
        }
        Edge.refuses("the food 12", Edge.STATE, Camps::full, b -> b.addFood(0));
        Edge.refuses("the food 12 with the greatest store", Edge.STATE, Camps::full, b -> b.addFood(10000));
        Check.sentence("Terms", "If several exceptions apply, the one that is named first is thrown.");
        Edge.refuses("12 foods, a store too small", Edge.ARGUMENT, Camps::full, b -> b.addFood(-1));
        Edge.refuses("12 foods, a store too great", Edge.ARGUMENT, Camps::full, b -> b.addFood(10001));
    }

    private static void buyNeedsAFood() {
        Check.sentence("Promise 15", "Throws `IndexOutOfBoundsException` if there is no such food");
        Edge.refuses("the first of none", Edge.INDEX, Camps::empty, b -> b.buy(0, 1));
        Edge.range("of two, food", Edge.INDEX, 0, 1, b -> {
            b.addFood(0);
            b.addFood(9999);
        }, (b, food) -> b.buy(food, 1));
        Edge.range("of twelve, food", Edge.INDEX, 0, 11, Camps::full, (b, food) -> b.buy(food, 1));
    }

    private static void unitsAreOneToTenThousand() {
        Check.sentence("Promise 15", "Throws `IllegalArgumentException` if units is not 1 to 10000");
        Edge.range("units", Edge.ARGUMENT, 1, 10000, b -> b.addFood(0), (b, units) -> b.buy(0, units));
        Edge.refusesOutside("in a used book, units", Edge.ARGUMENT, 1, 10000, Camps::used,
                (b, units) -> b.buy(1, units));
    }

    private static void storesGrowUpToTenThousand() {
        Check.sentence("Promise 15", "Throws `IllegalStateException` if the store would be greater than 10000");
        int[] stores = {0, 1, 5000, 9999};
        for (int store : stores) {
            Edge.answers("all that fits beside " + store, 10000, b -> b.addFood(store), b -> b.buy(0, 10000 - store));
            Edge.answers("which is its store then", 10000,
                    b -> b.buy(b.addFood(store), 10000 - store), b -> b.store(0));
        }
        for (int store : new int[] {1, 5000, 9999, 10000}) {
            Edge.refuses("one more than fits beside " + store, Edge.STATE, b -> b.addFood(store),
                    b -> b.buy(0, 10001 - store));
            Edge.refuses("all at once beside " + store, Edge.STATE, b -> b.addFood(store), b -> b.buy(0, 10000));
        }
        Edge.refuses("one more behind the one that fills it", Edge.STATE,
                b -> b.buy(b.addFood(9999), 1), b -> b.buy(0, 1));
        Edge.answers("one more, when one was eaten", 10000, meal(1, 10000, 1).then(b -> b.eat(0)), b -> b.buy(0, 1));
    }

    private static void firstNamedExceptionOfBuy() {
        Check.sentence("Terms", "If several exceptions apply, the one that is named first is thrown.");
        Edge.refuses("no food, no units", Edge.INDEX, Camps::used, b -> b.buy(3, 0));
        Edge.refuses("no food, units too many", Edge.INDEX, Camps::used, b -> b.buy(-1, 10001));
        Edge.refuses("units too many, for the store too", Edge.ARGUMENT, Camps::used, b -> b.buy(0, 10001));
        Edge.refuses("the most units of all", Edge.ARGUMENT, b -> b.addFood(10000), b -> b.buy(0, Integer.MAX_VALUE));
    }

    private static void storeNeedsAFood() {
        Check.sentence("Promise 16", "Throws `IndexOutOfBoundsException` if there is no such food");
        Edge.refuses("the first of none", Edge.INDEX, Camps::empty, b -> b.store(0));
        Edge.range("of three, food", Edge.INDEX, 0, 2, Camps::used, CampBook::store);
        Edge.range("of twelve, food", Edge.INDEX, 0, 11, Camps::full, CampBook::store);
    }

    private static void dietNeedsAScoutAndAFood() {
        Check.sentence("Promise 17", "Throws `IndexOutOfBoundsException` if there is no such scout or food");
        for (boolean eats : new boolean[] {true, false}) {
            Edge.range("of five, scout", Edge.INDEX, 0, 4, Camps::used, (b, scout) -> b.diet(scout, 1, eats));
            Edge.range("of thirty, scout", Edge.INDEX, 0, 29, Camps::full, (b, scout) -> b.diet(scout, 11, eats));
            Edge.range("of three, food", Edge.INDEX, 0, 2, Camps::used, (b, food) -> b.diet(2, food, eats));
            Edge.range("of twelve, food", Edge.INDEX, 0, 11, Camps::full, (b, food) -> b.diet(29, food, eats));
            Edge.refuses("the first of no foods", Edge.INDEX, Camps.of(9), b -> b.diet(0, 0, eats));
            Edge.refuses("the first of no scouts", Edge.INDEX, b -> b.addFood(0), b -> b.diet(0, 0, eats));
        }
    }

    private static void dietTellsWhatWasBefore() {
        Check.sentence("Promise 17", "Returns whether it ate it before.");
        Edge.Ahead one = meal(2, 0, 1);
        Edge.answers("a new scout eats it", true, one, b -> b.diet(1, 0, true));
        Edge.answers("a new scout ate it", true, one, b -> b.diet(1, 0, false));
        Edge.answers("it did not eat it", false, one.then(refusedBy(1)), b -> b.diet(1, 0, true));
        Edge.answers("it does not eat it still", false, one.then(refusedBy(1)), b -> b.diet(1, 0, false));
        Edge.answers("twice is once", 2, one.then(refusedBy(0, 0)), b -> b.eaters(0));
        Edge.answers("it eats it again", 3, one.then(refusedBy(0)).then(b -> b.diet(0, 0, true)), b -> b.eaters(0));
        Edge.changesNothing("what is so already", Camps::used, b -> b.diet(2, 1, false));
        Edge.changesNothing("what is so already", Camps::used, b -> b.diet(2, 0, true));
    }

    private static void mealsAreAtMostTen() {
        Check.sentence("Promise 18", "Throws `IllegalStateException` if there are 10");
        CampBook book = new CampBook();
        for (int meal = 0; meal < 10; meal++) {
            Check.numbers("meal " + meal, book.addMeal(), meal);
        }
        Edge.refuses("the meal 10", Edge.STATE, Camps::full, CampBook::addMeal);
        Edge.refuses("the meal 11", Edge.STATE, Camps.of(9).then(b -> {
            for (int meal = 0; meal < 11; meal++) {
                Edge.outcome(CampBook::addMeal, b);
            }
        }), CampBook::addMeal);
    }

    private static void needNeedsAMealAndAFood() {
        Check.sentence("Promise 19", "Throws `IndexOutOfBoundsException` if there is no such meal or food");
        Edge.range("of three, meal", Edge.INDEX, 0, 2, Camps::used, (b, meal) -> b.need(meal, 2, 7));
        Edge.range("of ten, meal", Edge.INDEX, 0, 9, Camps::full, (b, meal) -> b.need(meal, 11, 7));
        Edge.range("of three, food", Edge.INDEX, 0, 2, Camps::used, (b, food) -> b.need(2, food, 7));
        Edge.range("of twelve, food", Edge.INDEX, 0, 11, Camps::full, (b, food) -> b.need(0, food, 7));
        Edge.refuses("the first of no foods", Edge.INDEX, CampBook::addMeal, b -> b.need(0, 0, 7));
        Edge.refuses("the first of no meals", Edge.INDEX, b -> b.addFood(0), b -> b.need(0, 0, 7));
        Check.sentence("Terms", "If several exceptions apply, the one that is named first is thrown.");
        Edge.refuses("no meal, units too few", Edge.INDEX, Camps::used, b -> b.need(3, 0, -1));
        Edge.refuses("no food, units too many", Edge.INDEX, Camps::used, b -> b.need(0, 3, 51));
    }

    private static void needsAreZeroToFifty() {
        Check.sentence("Promise 19", "Throws `IllegalArgumentException` if units is not 0 to 50");
        Edge.range("of one in it, units", Edge.ARGUMENT, 0, 50, Camps::used, (b, units) -> b.need(0, 0, units));
        Edge.range("of one not in it, units", Edge.ARGUMENT, 0, 50, Camps::used, (b, units) -> b.need(2, 2, units));
        for (int units : new int[] {0, 1, 49, 50}) {
            Edge.answers(units + " units are kept", units, meal(1, 0, units),
                    b -> b.need(0, 0, 3));
        }
    }

    private static void needTakesFoodsOffTheMeal() {
        Check.sentence("Promise 19", "0 takes the food off the meal");
        Edge.Ahead one = meal(2, 9, 1).then(refusedBy(1));
        Edge.answers("with 1 unit it is in it", 1, one, b -> b.eaters(0));
        Edge.answers("with 0 units it is not", 3, one.then(b -> b.need(0, 0, 0)), b -> b.eaters(0));
        Edge.refuses("the meal has no foods then", Edge.STATE, one.then(b -> b.need(0, 0, 0)), b -> b.eat(0));
        Check.sentence("Promise 19", "Returns the units before, 0 if the food was not in it.");
        Edge.answers("it was never in it", 0, Camps::used, b -> b.need(2, 0, 50));
        Edge.answers("it was in it", 50, Camps::used, b -> b.need(0, 2, 0));
        Edge.answers("it was taken off", 0, one.then(b -> b.need(0, 0, 0)), b -> b.need(0, 0, 0));
        Edge.changesNothing("what is so already", Camps::used, b -> b.need(0, 2, 50));
    }

    private static void eatersNeedAMeal() {
        Check.sentence("Promise 20", "Throws `IndexOutOfBoundsException` if there is no such meal");
        Edge.refuses("the first of none", Edge.INDEX, Camps.of(9), b -> b.eaters(0));
        Edge.range("of three, meal", Edge.INDEX, 0, 2, Camps::used, CampBook::eaters);
        Edge.range("of ten, meal", Edge.INDEX, 0, 9, Camps::full, CampBook::eaters);
    }

    private static void eatersTellEmptyAndFullSets() {
        Check.sentence("Terms", "A scout can eat a meal, if it has no food that the scout does not eat.");
        Edge.answers("no scouts", 0, meal(0, 9, 1), b -> b.eaters(0));
        Edge.answers("no foods", 1, meal(1, 9, 0), b -> b.eaters(0));
        Edge.answers("no foods, and none that it eats", 1, meal(1, 9, 0).then(refusedBy(0)), b -> b.eaters(0));
        Edge.answers("all thirty", Camps.ALL, meal(30, 9, 1), b -> b.eaters(0));
        Edge.answers("all but the first", Camps.ALL - 1, meal(30, 9, 1).then(refusedBy(0)), b -> b.eaters(0));
        Edge.answers("all but the last", Camps.ALL >> 1, meal(30, 9, 1).then(refusedBy(29)), b -> b.eaters(0));
        Edge.answers("nobody", 0, meal(2, 9, 1).then(refusedBy(0, 1)), b -> b.eaters(0));
        Edge.answers("one food of twelve that it does not eat", Camps.ALL >> 1, Camps::full, b -> {
            for (int food = 0; food < 12; food++) {
                b.need(9, food, 1);
            }
            return b.eaters(9);
        });
        Edge.answers("eleven foods that it eats", Camps.ALL, Camps::full, b -> {
            for (int food = 0; food < 11; food++) {
                b.need(8, food, 1);
            }
            return b.eaters(8);
        });
        Edge.answers("a store that is not enough", 3, meal(2, 0, 1), b -> b.eaters(0));
    }

    private static void lacksNeedsAMealAndAFood() {
        Check.sentence("Promise 21", "Throws `IndexOutOfBoundsException` if there is no such meal or food");
        Edge.range("of three, meal", Edge.INDEX, 0, 2, Camps::used, (b, meal) -> b.lacks(meal, 2, 7));
        Edge.range("of ten, meal", Edge.INDEX, 0, 9, Camps::full, (b, meal) -> b.lacks(meal, 11, 7));
        Edge.range("of three, food", Edge.INDEX, 0, 2, Camps::used, (b, food) -> b.lacks(2, food, 7));
        Edge.range("of twelve, food", Edge.INDEX, 0, 11, Camps::full, (b, food) -> b.lacks(0, food, 7));
        Edge.refuses("the first of no foods", Edge.INDEX, CampBook::addMeal, b -> b.lacks(0, 0, 7));
        Edge.refuses("the first of no meals", Edge.INDEX, b -> b.addFood(0), b -> b.lacks(0, 0, 7));
        Check.sentence("Terms", "If several exceptions apply, the one that is named first is thrown.");
        Edge.refuses("no meal, no times", Edge.INDEX, Camps::used, b -> b.lacks(3, 0, 0));
        Edge.refuses("no food, times too many", Edge.INDEX, Camps::used, b -> b.lacks(0, 3, 101));
    }

    private static void timesAreOneToHundred() {
        Check.sentence("Promise 21", "Throws `IllegalArgumentException` if times is not 1 to 100");
        Edge.range("times", Edge.ARGUMENT, 1, 100, Camps::used, (b, times) -> b.lacks(0, 0, times));
        Edge.range("of a food not in it, times", Edge.ARGUMENT, 1, 100, Camps::used,
                (b, times) -> b.lacks(2, 0, times));
    }

    private static void lacksGoesFromNothingToTheMost() {
        Check.sentence("Promise 21", "Returns how many units of the food have to be bought");
        Edge.answers("the store is one more than enough", 0, meal(2, 13, 3), b -> b.lacks(0, 0, 2));
        Edge.answers("the store is just enough", 0, meal(2, 12, 3), b -> b.lacks(0, 0, 2));
        Edge.answers("one unit lacks", 1, meal(2, 11, 3), b -> b.lacks(0, 0, 2));
        Edge.answers("all lack", 12, meal(2, 0, 3), b -> b.lacks(0, 0, 2));
        Edge.answers("once", 6, meal(2, 0, 3), b -> b.lacks(0, 0, 1));
        Edge.answers("the most there can be", 150000, meal(30, 0, 50), b -> b.lacks(0, 0, 100));
        Edge.answers("the most beside the greatest store", 140000, meal(30, 10000, 50), b -> b.lacks(0, 0, 100));
        Edge.answers("one of two eats", 6, meal(2, 0, 3).then(refusedBy(0)), b -> b.lacks(0, 0, 2));
        Edge.answers("nobody eats", 0, meal(2, 0, 3).then(refusedBy(0, 1)), b -> b.lacks(0, 0, 100));
        Edge.answers("there are no scouts", 0, meal(0, 0, 50), b -> b.lacks(0, 0, 100));
        Edge.answers("the food is not in it", 0, meal(2, 0, 0), b -> b.lacks(0, 0, 100));
        Edge.answers("another food is in it", 0, meal(2, 0, 3).then(b -> b.addFood(0)), b -> b.lacks(0, 1, 100));
        Edge.answers("what was eaten today counts not for it", 5, meal(2, 7, 3).then(b -> b.eat(0)),
                b -> b.lacks(0, 0, 1));
        Edge.answers("nor do three meals", 2, meal(1, 3, 1).then(EdgesOfKitchenTest::eatThree),
                b -> b.lacks(0, 0, 2));
        Edge.changesNothing("asking", Camps::used, b -> b.lacks(0, 0, 100));
    }

    private static void eatThree(CampBook book) {
        for (int i = 0; i < 3; i++) {
            book.eat(0);
        }
    }

    private static void eatNeedsAMeal() {
        Check.sentence("Promise 22", "Throws `IndexOutOfBoundsException` if there is no such meal");
        Edge.refuses("the first of none", Edge.INDEX, Camps.of(9).then(b -> b.addFood(9)), b -> b.eat(0));
        Edge.range("of two, meal", Edge.INDEX, 0, 1, meal(2, 9, 1).then(b -> b.need(b.addMeal(), 0, 2)),
                CampBook::eat);
        Edge.refusesOutside("of three, meal", Edge.INDEX, 0, 2, Camps::used, CampBook::eat);
        Edge.refusesOutside("of ten, meal", Edge.INDEX, 0, 9, Camps::full, CampBook::eat);
        Check.sentence("Terms", "If several exceptions apply, the one that is named first is thrown.");
        Edge.refusesOutside("behind three meals, meal", Edge.INDEX, 0, 0,
                meal(2, 9, 1).then(EdgesOfKitchenTest::eatThree), CampBook::eat);
    }

    private static void threeMealsAreEatenADay() {
        Check.sentence("Promise 22", "Throws `IllegalStateException` if 3 meals were eaten today, "
                + "the meal has no foods, nobody can eat it, or a store is not enough");
        Edge.Ahead two = meal(2, 100, 1).then(b -> b.eat(0)).then(b -> b.eat(0));
        Edge.answers("the third", 2, two, b -> b.eat(0));
        Edge.Ahead three = two.then(b -> b.eat(0));
        Edge.answers("there were three", 3, three, b -> b.table(1));
        Edge.refuses("the fourth", Edge.STATE, three, b -> b.eat(0));
        Edge.refuses("the fourth, another", Edge.STATE, three.then(b -> b.need(b.addMeal(), 0, 1)), b -> b.eat(1));
        Edge.answers("the first of the next day", 2, three.then(CampBook::end), b -> b.eat(0));
        Edge.answers("the third of the next day", 2, three.then(CampBook::end).then(b -> b.eat(0)).then(b -> b.eat(0)),
                b -> b.eat(0));
        Edge.answers("a refused one counts not", 2, meal(2, 100, 1).then(b -> {
            b.addMeal();
            for (int i = 0; i < 5; i++) {
                Edge.outcome(x -> x.eat(1), b);
            }
            b.eat(0);
            b.eat(0);
        }), b -> b.eat(0));
    }

    private static void mealsNeedFoods() {
        Check.sentence("Promise 22", "Throws `IllegalStateException` if 3 meals were eaten today, "
                + "the meal has no foods, nobody can eat it, or a store is not enough");
        Edge.refuses("none yet", Edge.STATE, Camps::used, b -> b.eat(2));
        Edge.refuses("none any more", Edge.STATE, book -> {
            Camps.used(book);
            book.need(0, 0, 0);
            book.need(0, 2, 0);
        }, b -> b.eat(0));
        Edge.answers("the first food", 1, meal(1, 1, 1), b -> b.eat(0));
        Edge.answers("the last of twelve", 30, Camps::full, b -> {
            b.need(0, 11, 1);
            b.diet(29, 11, true);
            return b.eat(0);
        });
    }

    private static void mealsNeedEaters() {
        Check.sentence("Promise 22", "Throws `IllegalStateException` if 3 meals were eaten today, "
                + "the meal has no foods, nobody can eat it, or a store is not enough");
        Edge.refuses("there are no scouts", Edge.STATE, meal(0, 100, 1), b -> b.eat(0));
        Edge.refuses("no scout eats it", Edge.STATE, meal(2, 100, 1).then(refusedBy(0, 1)), b -> b.eat(0));
        Edge.answers("one scout eats it", 1, meal(2, 100, 1).then(refusedBy(0)), b -> b.eat(0));
        Edge.answers("all thirty eat it", 30, meal(30, 1500, 50), b -> b.eat(0));
        Edge.answers("who ate already eats again", 2, meal(2, 100, 1).then(b -> b.eat(0)), b -> b.eat(0));
    }

    /** A meal of three foods, of which two scouts need 10, 4 and 100 units together. */
    private static Edge.Ahead threeFoods(int first, int second, int third) {
        return meal(3, first, 5).then(refusedBy(1)).then(b -> {
            b.need(0, b.addFood(second), 2);
            b.need(0, b.addFood(third), 50);
        });
    }

    private static void mealsNeedStores() {
        Check.sentence("Promise 22", "Throws `IllegalStateException` if 3 meals were eaten today, "
                + "the meal has no foods, nobody can eat it, or a store is not enough");
        Edge.answers("all stores are just enough", 2, threeFoods(10, 4, 100), b -> b.eat(0));
        Edge.refuses("a unit of the first lacks", Edge.STATE, threeFoods(9, 4, 100), b -> b.eat(0));
        Edge.refuses("a unit of the second lacks", Edge.STATE, threeFoods(10, 3, 100), b -> b.eat(0));
        Edge.refuses("a unit of the third lacks", Edge.STATE, threeFoods(10, 4, 99), b -> b.eat(0));
        Edge.refuses("all are empty", Edge.STATE, threeFoods(0, 0, 0), b -> b.eat(0));
        Edge.refuses("it is just enough but once", Edge.STATE, threeFoods(10, 5, 101).then(b -> b.eat(0)),
                b -> b.eat(0));
        int[] left = {0, 1, 900};
        for (int food = 0; food < 3; food++) {
            int asked = food;
            Edge.answers("left of food " + food, left[food], threeFoods(10, 5, 1000).then(b -> b.eat(0)),
                    b -> b.store(asked));
        }
        Edge.answers("an empty store that is not needed", 1, meal(1, 1, 1).then(b -> b.addFood(0)), b -> b.eat(0));
        Edge.refuses("a unit lacks for thirty", Edge.STATE, meal(30, 1499, 50), b -> b.eat(0));
    }

    private static void tableTellsThreeThings() {
        Check.sentence("Promise 23", "Throws `IndexOutOfBoundsException` if what is not 0 to 2");
        Edge.range("in an empty book, what", Edge.INDEX, 0, 2, Camps::empty, CampBook::table);
        Edge.range("in a used book, what", Edge.INDEX, 0, 2, Camps::used, CampBook::table);
    }

    private static void tableTellsWhoAteNothing() {
        Check.sentence("Promise 23", "0 scouts that ate nothing today, 1 meals that were eaten today");
        Edge.answers("no scouts", 0, Camps::empty, b -> b.table(0));
        Edge.answers("no meals", 0, Camps::empty, b -> b.table(1));
        Edge.answers("all of thirty", 30, meal(30, 9, 1), b -> b.table(0));
        Edge.answers("none of thirty", 0, meal(30, 99, 1).then(b -> b.eat(0)), b -> b.table(0));
        Edge.answers("the last of three", 1, meal(3, 9, 1).then(refusedBy(2)).then(b -> b.eat(0)), b -> b.table(0));
        Edge.answers("the last of three ate it, and eats it no more", 0,
                meal(3, 9, 1).then(b -> b.eat(0)).then(refusedBy(2)), b -> b.table(0));
        Edge.Ahead byTurns = threeMeals(14, 13, 3);
        Edge.answers("one ate the first meal", 3, byTurns.then(b -> b.eat(0)), b -> b.table(0));
        Edge.answers("another the second", 2, byTurns.then(b -> b.eat(0)).then(b -> b.eat(1)), b -> b.table(0));
        Edge.answers("two more the third", 0, byTurns.then(b -> {
            b.eat(0);
            b.eat(1);
            b.eat(2);
        }), b -> b.table(0));
        Edge.answers("a meal is counted once for each time", 3, meal(1, 9, 1).then(EdgesOfKitchenTest::eatThree),
                b -> b.table(1));
        Edge.answers("who ate twice ate once", 1, meal(2, 9, 1).then(refusedBy(0)).then(EdgesOfKitchenTest::eatThree),
                b -> b.table(0));
    }

    private static void tableTellsNoMealIfThereIsNone() {
        Check.sentence("Promise 23", "-1 if there is none");
        Edge.answers("there are no meals", -1, Camps.of(9).then(b -> b.addFood(9)), b -> b.table(2));
        Edge.answers("it has no foods", -1, meal(1, 9, 0), b -> b.table(2));
        Edge.answers("nobody can eat it", -1, meal(1, 9, 1).then(refusedBy(0)), b -> b.table(2));
        Edge.answers("there are no scouts", -1, meal(0, 9, 1), b -> b.table(2));
        Edge.answers("a unit lacks", -1, meal(3, 8, 3), b -> b.table(2));
        Edge.answers("just enough", 0, meal(3, 9, 3), b -> b.table(2));
        Check.sentence("Promise 23", "none could, if 3 were eaten today");
        Edge.Ahead two = meal(1, 9, 1).then(b -> b.eat(0)).then(b -> b.eat(0));
        Edge.answers("behind two meals", 0, two, b -> b.table(2));
        Edge.answers("behind three meals", -1, two.then(b -> b.eat(0)), b -> b.table(2));
        Edge.answers("on the next day", 0, two.then(b -> b.eat(0)).then(CampBook::end), b -> b.table(2));
    }

    /** Three foods with a meal each; the scouts of a set can't eat the meal. */
    private static Edge.Ahead threeMeals(int... refused) {
        return Camps.of(9, 9, 9, 9).then(b -> {
            for (int i = 0; i < 3; i++) {
                b.need(b.addMeal(), b.addFood(100), 1);
                for (int scout = 0; scout < 4; scout++) {
                    b.diet(scout, i, (refused[i] >> scout & 1) == 0);
                }
            }
        });
    }

    private static void tableTellsTheMealForTheMost() {
        Check.sentence("Promise 23", "the one that the most scouts can eat, of those that ate nothing today; "
                + "of several the one with the smallest number");
        Edge.answers("all the same", 0, threeMeals(1, 2, 4), b -> b.table(2));
        Edge.answers("two the same, behind a worse one", 1, threeMeals(3, 2, 1), b -> b.table(2));
        Edge.answers("the last", 2, threeMeals(3, 5, 1), b -> b.table(2));
        Edge.answers("the last for one hungry scout against none for three", 2,
                threeMeals(1, 1, 14).then(b -> b.eat(0)), b -> b.table(2));
        Edge.answers("the second for one of two hungry scouts, the third for both", 2,
                threeMeals(3, 1, 12).then(b -> b.eat(0)), b -> b.table(2));
        Edge.answers("nobody is hungry, all the same", 0, threeMeals(1, 2, 0).then(b -> b.eat(2)), b -> b.table(2));
        Edge.answers("the best lacks a unit", 1, threeMeals(0, 1, 1).then(b -> b.need(0, 0, 26)), b -> b.table(2));
        Edge.answers("the best has just enough", 0, threeMeals(0, 1, 1).then(b -> b.need(0, 0, 25)), b -> b.table(2));
        Edge.changesNothing("asking", Camps::used, b -> b.table(2));
    }
}
