import java.math.BigInteger;

/** The edges of promises 30 to 33: end, day, meanAge, digest; and of the 512 calls. */
public final class EdgesOfDaysTest {
    public static void main(String[] args) {
        daysGoFromZeroToSixty();
        dayIsTold();
        lastDayStaysAsItIs();
        nextDayIsAFreshOne();
        meanAgeGoesFromNoneToAll();
        digestWrapsAround();
        digestTakesEmptyAndFullLists();
        digestHoldsNegativeNumbers();
        lastCallOf512IsAnswered();
        askingChangesNothing();
        Check.end();
    }

    private static Edge.Ahead ends(int days) {
        return book -> {
            for (int i = 0; i < days; i++) {
                book.end();
            }
        };
    }

    private static void daysGoFromZeroToSixty() {
        Check.sentence("Promise 30", "Throws `IllegalStateException` if it is day 60");
        for (int day = 0; day < 60; day++) {
            Edge.answers("the end of day " + day, day + 1, ends(day), CampBook::end);
        }
        Edge.refuses("the end of day 60", Edge.STATE, ends(60), CampBook::end);
        Edge.refuses("the end of day 60 once more", Edge.STATE, ends(60).then(b -> Edge.outcome(CampBook::end, b)),
                CampBook::end);
    }

    private static void dayIsTold() {
        Check.sentence("Promise 31", "Returns the day.");
        Edge.answers("the first day", 0, Camps::empty, CampBook::day);
        for (int day = 1; day <= 60; day++) {
            Edge.answers("the day " + day, day, ends(day), CampBook::day);
        }
        Edge.answers("it is still day 60", 60, ends(60).then(b -> Edge.outcome(CampBook::end, b)), CampBook::day);
        Edge.answers("a day with all in use", 1, Camps::used, CampBook::day);
    }

    private static void lastDayStaysAsItIs() {
        Check.sentence("Terms", "A method that throws an exception changes nothing.");
        Edge.Ahead lastDay = book -> {
            Camps.used(book);
            for (int day = book.day(); day < 60; day++) {
                book.end();
            }
            book.eat(0);
            book.findDuties();
        };
        Edge.answers("who ate nothing on day 60", 1, lastDay, b -> b.table(0));
        Edge.refuses("the end of a day 60 with a meal", Edge.STATE, lastDay, CampBook::end);
    }

    private static void nextDayIsAFreshOne() {
        Check.sentence("Promise 30", "on the next one nothing was eaten");
        Edge.answers("one ate nothing", 1, Camps::used, b -> b.table(0));
        Edge.answers("one meal", 1, Camps::used, b -> b.table(1));
        Edge.Ahead next = book -> {
            Camps.used(book);
            book.end();
        };
        Edge.answers("all ate nothing", 5, next, b -> b.table(0));
        Edge.answers("no meal", 0, next, b -> b.table(1));
        Edge.answers("the meal for all but one again", 0, next, b -> b.table(2));
        Edge.answers("the store stays", 92, next, b -> b.store(0));
        Edge.answers("the points stay", 7, next, b -> b.points(0));
        Edge.answers("the duty of yesterday stays", 0, next, b -> b.duty(1, Camps.WATCH));
        Edge.answers("the tents stay", 3, next, b -> b.inTent(0));
        Edge.answers("the hours stay", 10, next, b -> b.scout(2, 6));
        Edge.answers("the badges stay", 1, next, b -> b.scout(0, 5));
    }

    private static void meanAge(String what, double due, Edge.Ahead ahead) {
        Check.same(what, Edge.outcome(CampBook::meanAge, Edge.made(ahead)), due);
    }

    private static void meanAgeGoesFromNoneToAll() {
        Check.sentence("Promise 32", "Returns the mean age of all scouts; 0 if there are none.");
        meanAge("a new book", 0.0, Camps::empty);
        meanAge("patrols without scouts", 0.0, Camps.patrols(0, 0));
        meanAge("one of 6", 6.0, Camps.of(6));
        meanAge("one of 17", 17.0, Camps.of(17));
        meanAge("two, cut to nothing less", 11.5, Camps.of(6, 17));
        meanAge("three", 29.0 / 3, Camps.of(6, 6, 17));
        meanAge("scouts of two patrols", 9.0, Camps.patrols(6, 12));
        meanAge("thirty", 341.0 / 30, Camps.of(6).then(b -> {
            b.addPatrol();
            for (int i = 1; i < 30; i++) {
                b.addScout(1, i < 17 ? 12 : 11, 0);
            }
        }));
        meanAge("the full camp", 327.0 / 30, Camps::full);
    }

    /** The checksum without a limit, cut to 64 bits at the end alone. */
    private static long wrapped(long... numbers) {
        BigInteger d = BigInteger.valueOf(353);
        for (long x : numbers) {
            d = d.multiply(BigInteger.valueOf(31)).add(BigInteger.valueOf(x));
        }
        return d.longValue();
    }

    private static void digestWrapsAround() {
        Check.sentence("Promise 33", "which wraps around as a 64-bit integer");
        Edge.answers("a new book", wrapped(0, 0, 0, 0, 0, 0, 0, 0, -1, -1, -1, -1, -1, 0, 0),
                Camps::empty, CampBook::digest);
        Edge.answers("a used book", wrapped(1, 3, 5, 3, 2, 3, 3, 2, 7, 9, 0,
                0, 14, 2, 0, 0, 1, 10, 0, 12, 1, 0, 0, 0, 10, 0, 9, 0, 2, -1, 0, 10,
                1, 17, 3, 0, 1, 0, 4, 1, 11, 255, 1, -1, 0, 4,
                3, 8, 0, -1, -1, 1, -1, 0, 92, 9, 9800, 15, 27, 31, 1, 1),
                Camps::used, CampBook::digest);
    }

    private static void digestTakesEmptyAndFullLists() {
        Check.sentence("Promise 33", "for each of the following numbers x, d becomes d * 31 + x");
        long[] numbers = new long[8 + 6 + 30 * 7 + 10 + 5 + 12 + 10 + 2];
        int at = 1;
        for (long count : new long[] {6, 30, 10, 29, 12, 10, 8, 0, 0, 0, 0, 0, 5}) {
            numbers[at++] = count;
        }
        for (int scout = 0; scout < 30; scout++) {
            numbers[at++] = scout % 6;
            numbers[at++] = 6 + scout % 12;
            numbers[at++] = 8L * scout;
            numbers[at++] = scout == 29 ? 2048 : 0;
            numbers[at++] = scout == 29 ? 9 : -1;
            numbers[at++] = 0;
            numbers[at++] = scout % 6 == 5 ? 4 : 0;
        }
        at += 9;
        numbers[at++] = 1L << 29;
        for (int duty : new int[] {-1, -1, -1, -1, 5}) {
            numbers[at++] = duty;
        }
        for (int food = 0; food < 12; food++) {
            numbers[at++] = food < 11 ? 900 * food : 9900 - 29 * 5;
        }
        for (int meal = 0; meal < 10; meal++) {
            numbers[at++] = meal < 9 ? Camps.ALL : Camps.ALL >> 1;
        }
        numbers[at++] = 1;
        numbers[at] = 1;
        Edge.answers("a full book", wrapped(numbers), Camps::full, CampBook::digest);
    }

    private static void digestHoldsNegativeNumbers() {
        Check.sentence("Promise 33", "for each kind the patrol that has it today");
        Edge.answers("the last day, where only the watch is done",
                wrapped(60, 1, 1, 0, 1, 0, 0, 0, 10, 0, 12, 0, 0, -1, 0, 0, -1, -1, -1, -1, 0, 1, 0),
                Camps.of(12).then(b -> b.giveDuty(0, Camps.WATCH, 0)).then(ends(60)).then(CampBook::findDuties),
                CampBook::digest);
    }

    private static void lastCallOf512IsAnswered() {
        Check.sentence("What it is", "An object is used for at most 512 calls after it has been made");
        Edge.Ahead calls511 = Camps.of(17).then(b -> {
            for (int i = 0; i < 509; i++) {
                b.practise(0, i % 10, 24);
            }
        });
        Edge.answers("the hours", 509 * 24, calls511, b -> b.scout(0, 6));
        Edge.answers("a practice", 1, calls511, b -> b.practise(0, 9, 24));
        Edge.answers("a new scout", 1, calls511, b -> b.addScout(0, 6, 0));
        Check.same("a refused call", Edge.outcome(b -> b.scout(1, 0), Edge.made(calls511)), Edge.INDEX);
    }

    private static void askingChangesNothing() {
        Check.sentence("Not promised",
                "Nothing is promised beyond the answers and state changes described above");
        Edge.changesNothing("day", Camps::used, CampBook::day);
        Edge.changesNothing("meanAge", Camps::used, CampBook::meanAge);
        Edge.changesNothing("digest", Camps::used, CampBook::digest);
        Edge.changesNothing("hike", Camps::used, b -> b.hike(31, 50, 3000));
        Edge.changesNothing("eaters", Camps::used, b -> b.eaters(0));
        Edge.changesNothing("count", Camps::used, b -> b.count(3));
        Edge.changesNothing("points", Camps::used, b -> b.points(0));
        Edge.changesNothing("duty", Camps::used, b -> b.duty(60, 4));
        Edge.changesNothing("inTent", Camps::used, b -> b.inTent(0));
        Edge.changesNothing("scout", Camps::used, b -> b.scout(4, 6));
        Edge.changesNothing("store", Camps::used, b -> b.store(2));
    }
}
