/** The edges of promises 5 to 8: addTent, sleep, inTent, findTents. */
public final class EdgesOfTentsTest {
    public static void main(String[] args) {
        tentsAreForOneToEight();
        tentsAreAtMostTen();
        tentsTakeAsManyAsTheyHavePlaces();
        agesDifferByAtMostThree();
        agesAreThoseOfAnyTwo();
        scoutsSleepInOneTent();
        sleepNeedsAScout();
        sleepNeedsATentOrNone();
        sleepElsewhereThanBefore();
        refusedSleepersStayWhereTheyAre();
        inTentNeedsATent();
        inTentTellsEmptyAndFullSets();
        findTentsWithNothingToFind();
        findTentsGoesByAge();
        findTentsGoesByPatrolThenScoutsThenNumber();
        findTentsTakesOnlyWhereItCanSleep();
        Check.end();
    }

    private static void tentsAreForOneToEight() {
        Check.sentence("Promise 5", "Throws `IllegalArgumentException` if places is not 1 to 8");
        Edge.range("places", Edge.ARGUMENT, 1, 8, Camps::empty, CampBook::addTent);
        Edge.range("in a used book, places", Edge.ARGUMENT, 1, 8, Camps::used, CampBook::addTent);
    }

    private static void tentsAreAtMostTen() {
        Check.sentence("Promise 5", "Throws `IllegalStateException` if there are 10");
        CampBook book = new CampBook();
        for (int tent = 0; tent < 10; tent++) {
            Check.numbers("tent " + tent, book.addTent(1 + tent % 8), tent);
        }
        Edge.refuses("the tent 10, small", Edge.STATE, Camps::full, b -> b.addTent(1));
        Edge.refuses("the tent 10, large", Edge.STATE, Camps::full, b -> b.addTent(8));
        Edge.refuses("the tent 10, without scouts", Edge.STATE, b -> tents(b, 10, 1), b -> b.addTent(1));
        Check.sentence("Terms", "If several exceptions apply, the one that is named first is thrown.");
        Edge.refuses("no places, 10 tents", Edge.ARGUMENT, Camps::full, b -> b.addTent(0));
        Edge.refuses("9 places, 10 tents", Edge.ARGUMENT, Camps::full, b -> b.addTent(9));
    }

    private static void tents(CampBook book, int number, int places) {
        for (int i = 0; i < number; i++) {
            book.addTent(places);
        }
    }

    private static void tentsTakeAsManyAsTheyHavePlaces() {
        Check.sentence("Terms", "A scout can sleep in a tent, if there is a free place");
        for (int places = 1; places <= 8; places++) {
            int last = places;
            Edge.Ahead nearlyFull = Camps.of(9, 9, 9, 9, 9, 9, 9, 9, 9).then(b -> {
                b.addTent(last);
                for (int scout = 0; scout < last - 1; scout++) {
                    b.sleep(scout, 0);
                }
            });
            Edge.answers("the last place of " + places, -1, nearlyFull, b -> b.sleep(last - 1, 0));
            Edge.refuses("one more than " + places, Edge.STATE, nearlyFull.then(b -> b.sleep(last - 1, 0)),
                    b -> b.sleep(last, 0));
            Edge.answers("a place that is free again of " + places, -1,
                    nearlyFull.then(b -> b.sleep(last - 1, 0)).then(b -> b.sleep(0, -1)), b -> b.sleep(last, 0));
        }
    }

    private static void agesDifferByAtMostThree() {
        Check.sentence("Terms", "the ages of all that sleep there then differ by at most 3 (of any two of them)");
        for (int age : new int[] {6, 10, 14, 17}) {
            for (int other = 6; other <= 17; other++) {
                int newAge = other;
                Edge.Ahead one = Camps.of(age, newAge).then(b -> b.addTent(2)).then(b -> b.sleep(0, 0));
                if (Math.abs(age - newAge) <= 3) {
                    Edge.answers(newAge + " beside " + age, -1, one, b -> b.sleep(1, 0));
                } else {
                    Edge.refuses(newAge + " beside " + age, Edge.STATE, one, b -> b.sleep(1, 0));
                }
            }
        }
    }

    private static void agesAreThoseOfAnyTwo() {
        Check.sentence("Terms", "the ages of all that sleep there then differ by at most 3 (of any two of them)");
        Edge.Ahead two = Camps.of(10, 12, 9, 13, 8, 14).then(b -> {
            b.addTent(4);
            b.sleep(0, 0);
            b.sleep(1, 0);
        });
        Edge.answers("9 beside 10 and 12", -1, two, b -> b.sleep(2, 0));
        Edge.answers("13 beside 10 and 12", -1, two, b -> b.sleep(3, 0));
        Edge.refuses("8 beside 10 and 12", Edge.STATE, two, b -> b.sleep(4, 0));
        Edge.refuses("14 beside 10 and 12", Edge.STATE, two, b -> b.sleep(5, 0));
        Edge.refuses("9 beside 10, 12 and 13", Edge.STATE, two.then(b -> b.sleep(3, 0)), b -> b.sleep(2, 0));
        Edge.answers("8 beside 10, when 12 has left", -1, two.then(b -> b.sleep(1, -1)), b -> b.sleep(4, 0));
        Edge.answers("14 beside 12, when 10 has left", -1, two.then(b -> b.sleep(0, -1)), b -> b.sleep(5, 0));
        Edge.answers("none is beside anyone in no tent", 0, two.then(b -> b.sleep(1, -1)), b -> b.sleep(0, -1));
    }

    private static void scoutsSleepInOneTent() {
        Check.sentence("Terms", "A scout sleeps in at most one tent.");
        Edge.Ahead moved = book -> {
            Camps.used(book);
            book.sleep(1, 2);
        };
        Edge.answers("it has left the one", 1, moved, b -> b.inTent(0));
        Edge.answers("it is in the other", 2, moved, b -> b.inTent(2));
        Edge.answers("it is not without one", 2, moved, b -> b.count(3));
        Edge.answers("where it slept", 0, Camps::used, b -> b.sleep(1, 2));
        Edge.answers("where it slept then", 2, moved, b -> b.sleep(1, 0));
    }

    private static void sleepNeedsAScout() {
        Check.sentence("Promise 6",
                "Throws `IndexOutOfBoundsException` if there is no such scout, or tent is not -1, and no tent");
        Edge.range("into the tent 2, scout", Edge.INDEX, 0, 4, Camps::used, (b, scout) -> b.sleep(scout, 2));
        Edge.refusesOutside("into a full tent, scout", Edge.INDEX, 0, 4, Camps::used,
                (b, scout) -> b.sleep(scout, 1));
        Edge.refusesOutside("into none, scout", Edge.INDEX, 0, 4, Camps::used, (b, scout) -> b.sleep(scout, -1));
        Edge.refusesOutside("of thirty, scout", Edge.INDEX, 0, 29, Camps::full, (b, scout) -> b.sleep(scout, 0));
        Edge.refuses("the first of none", Edge.INDEX, Camps.of().then(b -> b.addTent(1)), b -> b.sleep(0, 0));
    }

    private static void sleepNeedsATentOrNone() {
        Check.sentence("Promise 6",
                "Throws `IndexOutOfBoundsException` if there is no such scout, or tent is not -1, and no tent");
        Edge.range("of one that sleeps, tent", Edge.INDEX, -1, 2, Camps::used, (b, tent) -> b.sleep(1, tent));
        Edge.answers("-1 is none", 0, Camps::used, b -> b.sleep(0, -1));
        Edge.refusesOutside("of one in none, tent", Edge.INDEX, -1, 2, Camps::used, (b, tent) -> b.sleep(2, tent));
        Edge.refusesOutside("of ten, tent", Edge.INDEX, -1, 9, Camps::full, (b, tent) -> b.sleep(29, tent));
        Edge.refuses("the first of none", Edge.INDEX, Camps.of(9), b -> b.sleep(0, 0));
    }

    private static void sleepElsewhereThanBefore() {
        Check.sentence("Promise 6",
                "Throws `IllegalStateException` if it sleeps in this tent (or in none) already, or cannot sleep there");
        Edge.refuses("in this tent already", Edge.STATE, Camps::used, b -> b.sleep(0, 0));
        Edge.refuses("in this tent of one place already", Edge.STATE, Camps::used, b -> b.sleep(3, 1));
        Edge.refuses("in none already", Edge.STATE, Camps::used, b -> b.sleep(2, -1));
        Edge.refuses("in none already, new", Edge.STATE, Camps.of(9), b -> b.sleep(0, -1));
        Edge.refuses("in none again", Edge.STATE, Camps.of(9).then(b -> {
            b.addTent(1);
            b.sleep(0, 0);
            b.sleep(0, -1);
        }), b -> b.sleep(0, -1));
        Edge.refuses("the last tent already", Edge.STATE, Camps::full, b -> b.sleep(29, 9));
    }

    private static void refusedSleepersStayWhereTheyAre() {
        Check.sentence("Terms", "A method that throws an exception changes nothing.");
        Edge.refuses("one in no tent, into a full one", Edge.STATE, Camps::used, b -> b.sleep(2, 1));
        Edge.refuses("one in a tent, into a full one", Edge.STATE, Camps::used, b -> b.sleep(0, 1));
        Edge.Ahead oldInTwo = book -> {
            Camps.used(book);
            book.sleep(3, 2);
        };
        Edge.refuses("one in a tent, beside a much older one", Edge.STATE, oldInTwo, b -> b.sleep(1, 2));
        Edge.refuses("one in no tent, beside a much older one", Edge.STATE, oldInTwo, b -> b.sleep(4, 2));
        Edge.refuses("one in a tent, into no such tent", Edge.INDEX, Camps::used, b -> b.sleep(1, 3));
    }

    private static void inTentNeedsATent() {
        Check.sentence("Promise 7", "Throws `IndexOutOfBoundsException` if there is no such tent");
        Edge.refuses("the first of none", Edge.INDEX, Camps.of(9), b -> b.inTent(0));
        Edge.range("of three, tent", Edge.INDEX, 0, 2, Camps::used, CampBook::inTent);
        Edge.range("of ten, tent", Edge.INDEX, 0, 9, Camps::full, CampBook::inTent);
    }

    private static void inTentTellsEmptyAndFullSets() {
        Check.sentence("Promise 7", "Returns the set of the scouts that sleep in it.");
        Edge.answers("nobody", 0, Camps::used, b -> b.inTent(2));
        Edge.answers("the first and the next", 3, Camps::used, b -> b.inTent(0));
        Edge.answers("the last of thirty", 1L << 29, Camps::full, b -> b.inTent(9));
        Edge.answers("the last eight of thirty", 255L << 22, Camps.of(new int[] {
            6, 6, 6, 6, 6, 6, 6, 6, 6, 6, 6, 6, 6, 6, 6, 6, 6, 6, 6, 6, 6, 6, 9, 9, 9, 9, 9, 9, 9, 9,
        }).then(b -> b.addTent(8)), b -> {
            b.findTents();
            return b.inTent(0);
        });
    }

    private static void findTentsWithNothingToFind() {
        Check.sentence("Promise 8", "Returns how many scouts sleep in no tent then.");
        Edge.answers("no scouts, no tents", 0, Camps::empty, CampBook::findTents);
        Edge.answers("no scouts", 0, b -> b.addTent(1), CampBook::findTents);
        Edge.answers("no tents", 3, Camps.of(6, 17, 9), CampBook::findTents);
        Edge.Ahead found = book -> {
            Camps.used(book);
            book.findTents();
        };
        Edge.answers("all have one", 0, found, b -> b.count(3));
        Edge.changesNothing("once more", found, CampBook::findTents);
        Edge.answers("one place for all", 2, Camps.of(8, 8, 8).then(b -> b.addTent(1)), CampBook::findTents);
    }

    private static void findTentsGoesByAge() {
        Check.sentence("Promise 8",
                "for each scout that sleeps in none, in descending order of their ages, "
                + "of the same age in ascending order of their numbers");
        int[] ages = {6, 7, 17, 16, 17, 6};
        long[] sets = {4, 16, 8, 2, 1, 32};
        for (int tents = 1; tents <= 6; tents++) {
            int number = tents;
            Edge.Ahead found = Camps.of(ages).then(b -> tents(b, number, 1)).then(CampBook::findTents);
            Edge.answers("the last of " + number + " tents", sets[number - 1], found, b -> b.inTent(number - 1));
            Edge.answers("left with " + number + " tents", 6 - number, found, b -> b.count(3));
        }
    }

    /** Scout 0 of patrol 0 looks for a tent; the others, of the other patrols too, sleep already. */
    private static Edge.Ahead seeker(int[] patrols, int[] tents, int[] places) {
        return book -> {
            for (int i = 0; i < 3; i++) {
                book.addPatrol();
            }
            book.addScout(0, 10, 0);
            for (int place : places) {
                book.addTent(place);
            }
            for (int i = 0; i < patrols.length; i++) {
                book.sleep(book.addScout(patrols[i], 10, 0), tents[i]);
            }
        };
    }

    private static void finds(String what, int due, int[] patrols, int[] tents, int... places) {
        Edge.answers(what, due, seeker(patrols, tents, places).then(CampBook::findTents), b -> b.scout(0, 4));
    }

    private static void findTentsGoesByPatrolThenScoutsThenNumber() {
        Check.sentence("Promise 8", "the one with the most scouts of its patrol, "
                + "of several the one with the most scouts, then with the smallest number");
        finds("one of its patrol against seven others", 1,
                new int[] {1, 1, 1, 1, 2, 2, 2, 0}, new int[] {0, 0, 0, 0, 0, 0, 0, 1}, 8, 2);
        finds("two of its patrol against one of it and five others", 2,
                new int[] {0, 1, 1, 1, 1, 1, 0, 0}, new int[] {0, 0, 0, 0, 0, 0, 2, 2}, 8, 1, 3);
        finds("one of its patrol each, and one other", 1, new int[] {0, 0, 1}, new int[] {0, 1, 1}, 8, 8);
        finds("none of its patrol, one other against none", 2, new int[] {1}, new int[] {2}, 8, 8, 8);
        finds("none of its patrol, two others of two patrols", 1, new int[] {1, 1, 2}, new int[] {0, 1, 1}, 8, 8);
        finds("the same everywhere", 0, new int[] {0, 0, 0}, new int[] {0, 1, 2}, 2, 8, 8);
        finds("empty everywhere", 0, new int[] {}, new int[] {}, 1, 8, 8);
    }

    private static void findTentsTakesOnlyWhereItCanSleep() {
        Check.sentence("Promise 8", "of the tents where it can sleep");
        finds("the best one is full", 1, new int[] {0, 0, 0}, new int[] {0, 0, 1}, 2, 2);
        finds("all are full", -1, new int[] {0, 0}, new int[] {0, 1}, 1, 1);
        Edge.Ahead ages = Camps.of(10, 14, 13).then(b -> {
            b.addTent(8);
            b.addTent(8);
            b.sleep(1, 0);
            b.sleep(2, 1);
        });
        Edge.answers("4 years are too many, 3 are not", 1, ages.then(CampBook::findTents), b -> b.scout(0, 4));
        Edge.answers("4 years in both", 1, Camps.of(9, 14, 13).then(b -> {
            b.addTent(8);
            b.addTent(8);
            b.sleep(1, 0);
            b.sleep(2, 1);
        }), CampBook::findTents);
    }
}
