/** Promises 24 to 29: addBadge, want, practise, away, earn, hike. */
public final class BadgesTest {
    public static void main(String[] args) {
        badgesAreNumberedUpToEight();
        wantsAreSet();
        hoursGoToThePatrol();
        awayTellsTheHoursLacking();
        badgesAreEarnedOnce();
        hikesGoAtTheSlowestPace();
        hikesNeedClimbAndRest();
        hikesAreLedByTwo();
        Check.end();
    }

    private static CampBook book(int... ages) {
        CampBook book = new CampBook();
        book.addPatrol();
        for (int age : ages) {
            book.addScout(0, age, 0);
        }
        return book;
    }

    private static void badgesAreNumberedUpToEight() {
        CampBook book = book();
        for (int badge = 0; badge < 8; badge++) {
            Check.numbers("addBadge", book.addBadge(badge < 4 ? 6 : 17), badge);
        }
    }

    private static void wantsAreSet() {
        CampBook book = book(10);
        book.addBadge(6);
        book.addBadge(6);
        Check.numbers("it wanted none", book.want(1, 9, 100), 0);
        Check.numbers("it wanted 100", book.want(1, 9, 1), 100);
        Check.numbers("the other activity", book.want(1, 0, 5), 0);
        Check.numbers("the other badge", book.want(0, 9, 2), 0);
        Check.numbers("none from now on", book.want(1, 9, 0), 1);
        Check.numbers("what it wants", book.away(0, 1), 5);
    }

    private static void hoursGoToThePatrol() {
        CampBook book = book(10, 11);
        book.addPatrol();
        Check.numbers("no scouts get them", book.practise(1, 3, 5), 0);
        book.addScout(1, 12, 0);
        Check.numbers("a later scout has none", book.scout(2, 6), 0);
        Check.numbers("two scouts get them", book.practise(0, 3, 24), 2);
        Check.numbers("again", book.practise(0, 9, 1), 2);
        Check.numbers("one scout gets them", book.practise(1, 0, 2), 1);
        Check.numbers("the hours of the first", book.scout(0, 6), 25);
        Check.numbers("the hours of the second", book.scout(1, 6), 25);
        Check.numbers("the hours of the third", book.scout(2, 6), 2);
    }

    private static void awayTellsTheHoursLacking() {
        CampBook book = book(10, 11);
        book.addBadge(11);
        Check.numbers("too young", book.away(0, 0), -1);
        Check.numbers("nothing lacks", book.away(1, 0), 0);
        book.want(0, 2, 6);
        book.want(0, 9, 3);
        Check.numbers("all lack", book.away(1, 0), 9);
        book.practise(0, 2, 4);
        book.practise(0, 9, 24);
        book.practise(0, 5, 24);
        Check.numbers("more in one does not help the other", book.away(1, 0), 2);
        book.practise(0, 2, 2);
        Check.numbers("nothing lacks then", book.away(1, 0), 0);
        book.earn(1, 0);
        Check.numbers("it has the badge", book.away(1, 0), -2);
        book.want(0, 2, 100);
        Check.numbers("it has it for good", book.away(1, 0), -2);
        Check.numbers("too young still", book.away(0, 0), -1);
    }

    private static void badgesAreEarnedOnce() {
        CampBook book = book(10, 11);
        for (int badge = 0; badge < 8; badge++) {
            book.addBadge(badge == 0 ? 11 : 6);
        }
        book.want(1, 4, 5);
        book.want(2, 4, 5);
        book.practise(0, 4, 4);
        book.practise(0, 4, 1);
        Check.numbers("the first badge", book.earn(0, 1), 1);
        Check.numbers("hours are not used up", book.earn(0, 2), 2);
        Check.numbers("the hours are there", book.scout(0, 6), 5);
        Check.numbers("the last badge", book.earn(0, 7), 3);
        Check.numbers("the set of its badges", book.scout(0, 5), 134);
        Check.numbers("the other scout", book.earn(1, 0), 1);
        Check.numbers("the set of its badges", book.scout(1, 5), 1);
    }

    private static CampBook hikers() {
        CampBook book = book();
        book.addScout(0, 14, 2);
        book.addScout(0, 17, 3);
        book.addScout(0, 13, 0);
        book.addScout(0, 6, 0);
        book.addScout(0, 6, 1);
        return book;
    }

    private static void hikesGoAtTheSlowestPace() {
        CampBook book = hikers();
        Check.numbers("12 minutes at 14", book.hike(1, 1, 0), 12);
        Check.numbers("10 with the skill, not less at 17", book.hike(2, 1, 0), 10);
        Check.numbers("the slower of both", book.hike(3, 1, 0), 12);
        Check.numbers("1 more at 13", book.hike(5, 1, 0), 13);
        Check.numbers("8 more at 6", book.hike(9, 1, 0), 20);
        Check.numbers("8 more and 2 less", book.hike(17, 1, 0), 18);
        Check.numbers("all", book.hike(31, 1, 0), 20);
    }

    private static void hikesNeedClimbAndRest() {
        CampBook book = hikers();
        Check.numbers("a climb of 99", book.hike(1, 1, 99), 12);
        Check.numbers("a climb of 100", book.hike(1, 1, 100), 22);
        Check.numbers("a climb of 299", book.hike(1, 1, 299), 32);
        Check.numbers("59 minutes have no rest", book.hike(5, 3, 200), 59);
        Check.numbers("60 minutes have one", book.hike(1, 5, 0), 65);
        Check.numbers("the climb counts for the rest", book.hike(2, 1, 500), 65);
        Check.numbers("rests bring no rests", book.hike(2, 11, 0), 115);
        Check.numbers("119 minutes have one rest", book.hike(5, 3, 800), 124);
        Check.numbers("the longest", book.hike(9, 50, 3000), 1300 + 21 * 5);
        Check.numbers("nothing is noted", book.digest(), hikers().digest());
    }

    private static void hikesAreLedByTwo() {
        CampBook book = hikers();
        book.addScout(0, 13, 2);
        book.addScout(0, 17, 253);
        Check.numbers("one is 14, another has the skill", book.hike(96, 1, 0), 13);
    }
}
