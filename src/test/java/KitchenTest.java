/** Promises 14 to 23: addFood, buy, store, diet, addMeal, need, eaters, lacks, eat, table. */
public final class KitchenTest {
    public static void main(String[] args) {
        foodsAreNumberedUpToTwelve();
        storesGrowUpToTenThousand();
        dietsSayWhatIsNotEaten();
        mealsAreNumberedUpToTen();
        needsAreSet();
        eatersEatAllFoodsOfTheMeal();
        lacksTellsWhatIsToBeBought();
        mealsAreEatenFromTheStores();
        mealsAreEatenThriceADay();
        tableTellsTheBestMeal();
        bestMealIsForTheHungry();
        Check.end();
    }

    private static CampBook book(int scouts) {
        CampBook book = new CampBook();
        book.addPatrol();
        for (int i = 0; i < scouts; i++) {
            book.addScout(0, 10, 0);
        }
        return book;
    }

    private static void foodsAreNumberedUpToTwelve() {
        CampBook book = book(0);
        for (int food = 0; food < 12; food++) {
            int store = food == 0 ? 0 : 10000 - food + 1;
            Check.numbers("addFood", book.addFood(store), food);
            Check.numbers("its store", book.store(food), store);
        }
    }

    private static void storesGrowUpToTenThousand() {
        CampBook book = book(0);
        book.addFood(0);
        book.addFood(10000);
        Check.numbers("one unit", book.buy(0, 1), 1);
        Check.numbers("up to the limit", book.buy(0, 9999), 10000);
        Check.numbers("its store", book.store(0), 10000);
        Check.numbers("the other store", book.store(1), 10000);
        book.addFood(0);
        Check.numbers("10000 at once", book.buy(2, 10000), 10000);
    }

    private static void dietsSayWhatIsNotEaten() {
        CampBook book = book(2);
        for (int food = 0; food < 12; food++) {
            book.addFood(0);
        }
        Check.same("it ate it", book.diet(1, 11, false), true);
        Check.same("it did not eat it", book.diet(1, 11, false), false);
        Check.same("it ate the other", book.diet(1, 0, true), true);
        Check.same("it ate the other still", book.diet(1, 0, false), true);
        Check.numbers("its set", book.scout(1, 3), 2049);
        Check.numbers("the set of the other scout", book.scout(0, 3), 0);
        Check.same("now it does again", book.diet(1, 11, true), false);
        Check.numbers("its set then", book.scout(1, 3), 1);
    }

    private static void mealsAreNumberedUpToTen() {
        CampBook book = book(3);
        for (int meal = 0; meal < 10; meal++) {
            Check.numbers("addMeal", book.addMeal(), meal);
            Check.numbers("all can eat a meal without foods", book.eaters(meal), 7);
        }
    }

    private static void needsAreSet() {
        CampBook book = book(1);
        book.addFood(0);
        book.addFood(0);
        book.addMeal();
        book.addMeal();
        Check.numbers("it was not in it", book.need(1, 0, 50), 0);
        Check.numbers("it had 50", book.need(1, 0, 1), 50);
        Check.numbers("the other food was not in it", book.need(1, 1, 7), 0);
        Check.numbers("nor in the other meal", book.need(0, 0, 0), 0);
        Check.numbers("taken off", book.need(1, 0, 0), 1);
        Check.numbers("it is off", book.need(1, 0, 3), 0);
    }

    private static void eatersEatAllFoodsOfTheMeal() {
        CampBook book = book(30);
        book.addFood(0);
        book.addFood(0);
        book.addMeal();
        book.need(0, 0, 1);
        Check.numbers("all 30", book.eaters(0), (1L << 30) - 1);
        book.diet(29, 1, false);
        Check.numbers("the food is not in the meal", book.eaters(0), (1L << 30) - 1);
        book.need(0, 1, 1);
        Check.numbers("all but one", book.eaters(0), (1L << 29) - 1);
        book.diet(0, 0, false);
        Check.numbers("all but two", book.eaters(0), (1L << 29) - 2);
        book.need(0, 1, 0);
        Check.numbers("the food is off the meal", book.eaters(0), (1L << 30) - 2);
        book.diet(0, 0, true);
        Check.numbers("it eats it again", book.eaters(0), (1L << 30) - 1);
    }

    private static void lacksTellsWhatIsToBeBought() {
        CampBook book = book(30);
        book.addFood(100);
        book.addFood(0);
        book.addMeal();
        book.need(0, 0, 50);
        Check.numbers("the most there can be", book.lacks(0, 0, 100), 149900);
        book.need(0, 0, 2);
        Check.numbers("for once the store is enough", book.lacks(0, 0, 1), 0);
        Check.numbers("for twice it isn't", book.lacks(0, 0, 2), 20);
        Check.numbers("a food that is not in it", book.lacks(0, 1, 100), 0);
        book.diet(3, 0, false);
        Check.numbers("one eats less", book.lacks(0, 0, 2), 16);
        for (int scout = 0; scout < 30; scout++) {
            book.diet(scout, 0, false);
        }
        Check.numbers("nobody eats", book.lacks(0, 0, 100), 0);
    }

    private static void mealsAreEatenFromTheStores() {
        CampBook book = book(4);
        book.addFood(12);
        book.addFood(100);
        book.addFood(7);
        book.addMeal();
        book.need(0, 0, 3);
        book.need(0, 1, 10);
        Check.numbers("four eat", book.eat(0), 4);
        Check.numbers("the whole store", book.store(0), 0);
        Check.numbers("a part of it", book.store(1), 60);
        Check.numbers("nothing of this one", book.store(2), 7);
        Check.numbers("nobody is hungry", book.table(0), 0);
        Check.numbers("one meal", book.table(1), 1);
        book.addScout(0, 6, 0);
        Check.numbers("the new one ate nothing", book.table(0), 1);
        book.end();
        Check.numbers("all are hungry on the next day", book.table(0), 5);
        Check.numbers("no meals on the next day", book.table(1), 0);
        Check.numbers("the stores stay", book.store(1), 60);
    }

    private static void mealsAreEatenThriceADay() {
        CampBook book = book(2);
        book.addFood(5);
        book.addFood(10000);
        book.addMeal();
        book.addMeal();
        book.need(0, 1, 1);
        book.need(0, 0, 3);
        book.need(1, 1, 1);
        book.diet(0, 1, false);
        Check.numbers("one eats", book.eat(0), 1);
        Check.numbers("one eats again", book.eat(1), 1);
        Check.numbers("one eats a third time", book.eat(1), 1);
        Check.numbers("none is best then", book.table(2), -1);
        book.end();
        Check.numbers("on the next day it is eaten", book.eat(1), 1);
    }

    private static void tableTellsTheBestMeal() {
        CampBook book = book(3);
        book.addFood(100);
        book.addFood(2);
        book.addFood(100);
        for (int meal = 0; meal < 4; meal++) {
            book.addMeal();
        }
        Check.numbers("no meal has foods", book.table(2), -1);
        book.need(1, 1, 1);
        Check.numbers("no store is enough", book.table(2), -1);
        book.need(2, 0, 1);
        book.need(3, 2, 1);
        Check.numbers("of several the smallest number", book.table(2), 2);
        book.diet(0, 0, false);
        Check.numbers("the one that the most can eat", book.table(2), 3);
    }

    private static void bestMealIsForTheHungry() {
        CampBook book = book(4);
        book.addFood(100);
        book.addFood(100);
        book.addMeal();
        book.addMeal();
        book.need(0, 0, 1);
        book.need(1, 1, 1);
        book.diet(3, 0, false);
        book.diet(0, 1, false);
        book.diet(1, 1, false);
        Check.numbers("three against two", book.table(2), 0);
        book.eat(0);
        Check.numbers("one is hungry", book.table(0), 1);
        Check.numbers("none of the hungry against one", book.table(2), 1);
        book.eat(1);
        Check.numbers("nobody is hungry", book.table(0), 0);
        Check.numbers("meals can be eaten still: the smallest number", book.table(2), 0);
    }
}
