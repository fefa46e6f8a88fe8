/** Promises 5 to 8: addTent, sleep, inTent, findTents. */
public final class TentsTest {
    public static void main(String[] args) {
        tentsAreNumberedUpToTen();
        scoutsMoveBetweenTents();
        scoutsOfLikeAgesShareATent();
        olderScoutsFindTentsFirst();
        tentsOfTheOwnPatrolAreBest();
        fullestTentIsNextBest();
        findTentsLeavesWhoSleepsAlready();
        Check.end();
    }

    private static CampBook book(int patrols, int... ages) {
        CampBook book = new CampBook();
        for (int i = 0; i < patrols; i++) {
            book.addPatrol();
        }
        for (int age : ages) {
            book.addScout(0, age, 0);
        }
        return book;
    }

    private static void tentsAreNumberedUpToTen() {
        CampBook book = book(1);
        for (int tent = 0; tent < 10; tent++) {
            Check.numbers("addTent", book.addTent(1 + tent % 8), tent);
            Check.numbers("it is empty", book.inTent(tent), 0);
        }
    }

    private static void scoutsMoveBetweenTents() {
        CampBook book = book(1, 10, 11);
        book.addTent(2);
        book.addTent(1);
        Check.numbers("into a tent", book.sleep(1, 0), -1);
        Check.numbers("the other one too", book.sleep(0, 0), -1);
        Check.numbers("both are there", book.inTent(0), 3);
        Check.numbers("into the other tent", book.sleep(1, 1), 0);
        Check.numbers("one is left", book.inTent(0), 1);
        Check.numbers("one has come", book.inTent(1), 2);
        Check.numbers("scout tells it", book.scout(1, 4), 1);
        Check.numbers("out of the tent", book.sleep(1, -1), 1);
        Check.numbers("none is there", book.inTent(1), 0);
        Check.numbers("scout tells none", book.scout(1, 4), -1);
    }

    private static void scoutsOfLikeAgesShareATent() {
        CampBook book = book(1, 10, 13, 7, 11);
        book.addTent(3);
        book.sleep(0, 0);
        Check.numbers("3 years older", book.sleep(1, 0), -1);
        book.sleep(3, 0);
        Check.numbers("three sleep there", book.inTent(0), 11);
        book.sleep(1, -1);
        book.sleep(3, -1);
        Check.numbers("3 years younger", book.sleep(2, 0), -1);
    }

    private static void olderScoutsFindTentsFirst() {
        CampBook book = book(1, 6, 17, 12, 17, 12);
        book.addTent(1);
        book.addTent(1);
        book.addTent(1);
        Check.numbers("two find none", book.findTents(), 2);
        Check.numbers("the older first, by number", book.inTent(0), 2);
        Check.numbers("the other of 17", book.inTent(1), 8);
        Check.numbers("the first of 12", book.inTent(2), 4);
        book.addTent(8);
        Check.numbers("6 and 12 don't fit", book.findTents(), 1);
        Check.numbers("the second of 12", book.inTent(3), 16);
        book.addTent(8);
        Check.numbers("all have one", book.findTents(), 0);
        Check.numbers("the youngest", book.inTent(4), 1);
    }

    private static void tentsOfTheOwnPatrolAreBest() {
        CampBook book = book(2);
        book.addScout(1, 10, 0);
        book.addScout(1, 10, 0);
        book.addScout(1, 10, 0);
        book.addScout(0, 10, 0);
        book.addScout(0, 9, 0);
        book.addTent(8);
        book.addTent(8);
        book.sleep(0, 0);
        book.sleep(1, 0);
        book.sleep(2, 0);
        book.sleep(3, 1);
        Check.numbers("all have one", book.findTents(), 0);
        Check.numbers("one mate outweighs three others", book.scout(4, 4), 1);
    }

    private static void fullestTentIsNextBest() {
        CampBook book = book(2);
        for (int i = 0; i < 4; i++) {
            book.addScout(1, 10, 0);
        }
        book.addScout(0, 10, 0);
        book.addTent(3);
        book.addTent(3);
        book.addTent(3);
        book.addTent(2);
        book.sleep(0, 1);
        book.sleep(1, 1);
        book.sleep(2, 3);
        book.sleep(3, 3);
        book.findTents();
        Check.numbers("the one with the most scouts, if it is not full", book.scout(4, 4), 1);
        book.addScout(0, 10, 0);
        book.sleep(4, -1);
        book.sleep(1, -1);
        book.sleep(1, 2);
        book.findTents();
        Check.numbers("of several the smallest number", book.scout(4, 4), 1);
        Check.numbers("then the mate is there", book.scout(5, 4), 1);
    }

    private static void findTentsLeavesWhoSleepsAlready() {
        CampBook book = book(1, 10, 10);
        book.addTent(2);
        book.addTent(2);
        book.sleep(0, 0);
        book.sleep(1, 1);
        Check.numbers("nothing is to be found", book.findTents(), 0);
        Check.numbers("the first stays", book.inTent(0), 1);
        Check.numbers("the second stays", book.inTent(1), 2);
    }
}
