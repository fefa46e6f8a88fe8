/** The edges of promises 10 to 13: giveDuty, duty, points, findDuties. */
public final class EdgesOfDutiesTest {
    public static void main(String[] args) {
        dutiesHaveAKind();
        dutiesHaveAPatrolOrNone();
        dutiesHaveADayFromTodayOn();
        firstNamedExceptionOfGiveDuty();
        patrolsNeedAScout();
        patrolsDoOneKindOnADay();
        patrolsDoNoKindOnTwoDaysInARow();
        lastAndFirstDayHaveNoNeighbour();
        watchNeedsAScoutOfTwelve();
        onePatrolHasADuty();
        refusedDutiesStayWithTheirPatrol();
        dutyNeedsAKindAndADay();
        pointsNeedAPatrol();
        pointsAreOfEachKind();
        pointsAreOfAllDays();
        findDutiesWithNothingToFind();
        findDutiesGoesByPointsOfTheKinds();
        findDutiesGoesByPointsOfThePatrols();
        findDutiesGivesAsGiveDuty();
        Check.end();
    }

    private static Edge.Ahead ends(int days) {
        return book -> {
            for (int i = 0; i < days; i++) {
                book.end();
            }
        };
    }

    private static void dutiesHaveAKind() {
        Check.sentence("Promise 10",
                "Throws `IndexOutOfBoundsException` if kind is not 0 to 4, or patrol is not -1, and no patrol");
        Edge.range("to a patrol, kind", Edge.INDEX, 0, 4, Camps.patrols(12), (b, kind) -> b.giveDuty(3, kind, 0));
        Edge.range("to none, kind", Edge.INDEX, 0, 4, Camps::used, (b, kind) -> b.giveDuty(1, kind, -1));
        Edge.refusesOutside("in a used book, kind", Edge.INDEX, 0, 4, Camps::used,
                (b, kind) -> b.giveDuty(9, kind, 0));
    }

    private static void dutiesHaveAPatrolOrNone() {
        Check.sentence("Promise 10",
                "Throws `IndexOutOfBoundsException` if kind is not 0 to 4, or patrol is not -1, and no patrol");
        Edge.range("of one, patrol", Edge.INDEX, -1, 0, Camps.patrols(12), (b, patrol) -> b.giveDuty(3, 0, patrol));
        Edge.range("of two, patrol", Edge.INDEX, -1, 1, Camps.patrols(12, 12),
                (b, patrol) -> b.giveDuty(60, 4, patrol));
        Edge.range("of six, patrol", Edge.INDEX, -1, 5, Camps::full, (b, patrol) -> b.giveDuty(3, 0, patrol));
        Edge.refusesOutside("one that has it, then patrol", Edge.INDEX, -1, 2, Camps::used,
                (b, patrol) -> b.giveDuty(1, Camps.WATCH, patrol));
        Edge.refuses("the first of none", Edge.INDEX, Camps::empty, b -> b.giveDuty(0, 0, 0));
        Edge.answers("none of none", -1, Camps::empty, b -> b.giveDuty(0, 0, -1));
    }

    private static void dutiesHaveADayFromTodayOn() {
        Check.sentence("Promise 10", "Throws `IllegalArgumentException` if day is before this day, or greater than 60");
        Edge.range("on day 0, day", Edge.ARGUMENT, 0, 60, Camps.patrols(12), (b, day) -> b.giveDuty(day, 1, 0));
        Edge.range("on day 1, day", Edge.ARGUMENT, 1, 60, Camps::used, (b, day) -> b.giveDuty(day, 0, -1));
        Edge.range("on day 30, day", Edge.ARGUMENT, 30, 60, Camps.patrols(12).then(ends(30)),
                (b, day) -> b.giveDuty(day, 4, 0));
        Edge.range("on day 60, day", Edge.ARGUMENT, 60, 60, Camps.patrols(12).then(ends(60)),
                (b, day) -> b.giveDuty(day, 4, 0));
        Edge.refuses("what was done yesterday is taken from nobody", Edge.ARGUMENT, Camps::used,
                b -> b.giveDuty(0, Camps.WATER, -1));
        Edge.refuses("nor given to another", Edge.ARGUMENT, Camps::used, b -> b.giveDuty(0, Camps.WATER, 0));
    }

    private static void firstNamedExceptionOfGiveDuty() {
        Check.sentence("Terms", "If several exceptions apply, the one that is named first is thrown.");
        Edge.refuses("no kind, a past day", Edge.INDEX, Camps::used, b -> b.giveDuty(0, 5, 0));
        Edge.refuses("no kind, a day too late", Edge.INDEX, Camps::used, b -> b.giveDuty(61, -1, -1));
        Edge.refuses("no patrol, a past day", Edge.INDEX, Camps::used, b -> b.giveDuty(0, 0, 3));
        Edge.refuses("no patrol, a day too late", Edge.INDEX, Camps::used, b -> b.giveDuty(61, 0, -2));
        Edge.refuses("no kind, a patrol without scouts", Edge.INDEX, Camps::used, b -> b.giveDuty(1, 5, 2));
        Edge.refuses("a past day, a patrol without scouts", Edge.ARGUMENT, Camps::used, b -> b.giveDuty(0, 0, 2));
        Edge.refuses("a day too late, a patrol without scouts", Edge.ARGUMENT, Camps::used,
                b -> b.giveDuty(61, 0, 2));
        Edge.refuses("a day too late, behind the same kind", Edge.ARGUMENT, Camps::used,
                b -> b.giveDuty(61, Camps.DISHES, 0));
    }

    private static void patrolsNeedAScout() {
        Check.sentence("Terms", "A patrol can do a kind on a day, if it has scouts");
        for (int kind = 0; kind < 5; kind++) {
            int given = kind;
            Edge.refuses("kind " + kind + " to no scouts", Edge.STATE, Camps::used, b -> b.giveDuty(5, given, 2));
            Edge.answers("kind " + kind + " to one scout", -1, b -> {
                Camps.used(b);
                b.addScout(2, 12, 0);
            }, b -> b.giveDuty(5, given, 2));
        }
    }

    private static void patrolsDoOneKindOnADay() {
        Check.sentence("Terms", "does no other kind on this day");
        for (int kind = 0; kind < 5; kind++) {
            int had = kind;
            Edge.Ahead one = Camps.patrols(12, 12).then(b -> b.giveDuty(5, had, 0));
            for (int other = 0; other < 5; other++) {
                int given = other;
                if (given == had) {
                    Edge.answers(had + " again", 0, one, b -> b.giveDuty(5, given, 0));
                } else {
                    Edge.refuses(given + " beside " + had, Edge.STATE, one, b -> b.giveDuty(5, given, 0));
                    Edge.answers(given + " of another beside " + had, -1, one, b -> b.giveDuty(5, given, 1));
                    Edge.answers(given + " on the day before " + had, -1, one, b -> b.giveDuty(4, given, 0));
                    Edge.answers(given + " on the day behind " + had, -1, one, b -> b.giveDuty(6, given, 0));
                    Edge.answers(given + " when it has " + had + " no more", -1,
                            one.then(b -> b.giveDuty(5, had, -1)), b -> b.giveDuty(5, given, 0));
                }
            }
        }
    }

    private static void patrolsDoNoKindOnTwoDaysInARow() {
        for (int kind = 0; kind < 5; kind++) {
            int had = kind;
            Edge.Ahead one = Camps.patrols(12, 12).then(b -> b.giveDuty(5, had, 0));
            Check.sentence("Terms", "did not do the same kind on the day before");
            Edge.refuses(had + " on the day behind", Edge.STATE, one, b -> b.giveDuty(6, had, 0));
            Edge.answers(had + " two days behind", -1, one, b -> b.giveDuty(7, had, 0));
            Edge.answers(had + " of another on the day behind", -1, one, b -> b.giveDuty(6, had, 1));
            Edge.refuses(had + " of yesterday", Edge.STATE, one.then(ends(6)), b -> b.giveDuty(6, had, 0));
            Check.sentence("Promise 10", "Throws `IllegalStateException` if the patrol cannot do it on this day, "
                    + "or does this kind on the day behind");
            Edge.refuses(had + " on the day before", Edge.STATE, one, b -> b.giveDuty(4, had, 0));
            Edge.answers(had + " two days before", -1, one, b -> b.giveDuty(3, had, 0));
            Edge.answers(had + " of another on the day before", -1, one, b -> b.giveDuty(4, had, 1));
            Edge.refuses(had + " between two", Edge.STATE, one.then(b -> b.giveDuty(7, had, 0)),
                    b -> b.giveDuty(6, had, 0));
        }
    }

    private static void lastAndFirstDayHaveNoNeighbour() {
        Check.sentence("Terms", "Days are numbered from 0; the last one is 60.");
        for (int kind = 0; kind < 5; kind++) {
            int given = kind;
            Edge.Ahead ends = Camps.patrols(12).then(b -> {
                b.giveDuty(0, given, 0);
                b.giveDuty(60, given, 0);
            });
            Edge.answers(kind + " on the first day", 0, ends, b -> b.duty(0, given));
            Edge.answers(kind + " on the last day", 0, ends, b -> b.duty(60, given));
            Edge.refuses(kind + " behind the first day", Edge.STATE, ends, b -> b.giveDuty(1, given, 0));
            Edge.refuses(kind + " before the last day", Edge.STATE, ends, b -> b.giveDuty(59, given, 0));
            Edge.answers(kind + " on the day 2", -1, ends, b -> b.giveDuty(2, given, 0));
            Edge.answers(kind + " on the day 58", -1, ends, b -> b.giveDuty(58, given, 0));
        }
    }

    private static void watchNeedsAScoutOfTwelve() {
        Check.sentence("Terms", "for WATCH, has a scout of at least 12");
        Edge.refuses("the oldest is 11", Edge.STATE, Camps.of(6, 11, 11), b -> b.giveDuty(0, Camps.WATCH, 0));
        Edge.refuses("a scout of 12 in the other patrol", Edge.STATE, Camps.patrols(11, 12),
                b -> b.giveDuty(0, Camps.WATCH, 0));
        for (int age = 12; age <= 17; age++) {
            Edge.answers("one of " + age, -1, Camps.of(6, age, 6), b -> b.giveDuty(0, Camps.WATCH, 0));
        }
        for (int kind = 0; kind < 4; kind++) {
            int given = kind;
            Edge.answers("kind " + kind + " for one of 6", -1, Camps.of(6), b -> b.giveDuty(0, given, 0));
        }
    }

    private static void onePatrolHasADuty() {
        Check.sentence("Terms", "On each day each kind is done by one patrol, or by none.");
        Edge.Ahead other = Camps.patrols(12, 12).then(b -> b.giveDuty(5, 2, 0)).then(b -> b.giveDuty(5, 2, 1));
        Edge.answers("the one that has it now", 1, other, b -> b.duty(5, 2));
        Edge.answers("its points", 4, other, b -> b.points(1));
        Edge.answers("the points of the one before", 0, other, b -> b.points(0));
        Edge.answers("which had it", 1, other, b -> b.giveDuty(5, 2, -1));
        Edge.Ahead none = other.then(b -> b.giveDuty(5, 2, -1));
        Edge.answers("none has it", -1, none, b -> b.duty(5, 2));
        Edge.answers("no points", 0, none, b -> b.points(1));
        Edge.answers("none had it", -1, none, b -> b.giveDuty(5, 2, -1));
    }

    private static void refusedDutiesStayWithTheirPatrol() {
        Check.sentence("Terms", "A method that throws an exception changes nothing.");
        Edge.refuses("the watch of the one, for the other", Edge.STATE, Camps::used,
                b -> b.giveDuty(1, Camps.WATCH, 1));
        Edge.refuses("the cooking of the other, for the one", Edge.STATE, Camps::used,
                b -> b.giveDuty(1, Camps.COOKING, 0));
        Edge.refuses("the watch, for one without scouts", Edge.STATE, Camps::used,
                b -> b.giveDuty(1, Camps.WATCH, 2));
        Edge.refuses("the wood, for none such", Edge.INDEX, Camps::used, b -> b.giveDuty(2, Camps.WOOD, 6));
        Edge.Ahead rows = Camps.patrols(12, 12).then(b -> {
            b.giveDuty(5, 0, 0);
            b.giveDuty(6, 0, 1);
            b.giveDuty(7, 0, 0);
        });
        Edge.refuses("the water between, for the one", Edge.STATE, rows, b -> b.giveDuty(6, 0, 0));
        Edge.refuses("the water before, for the other", Edge.STATE, rows, b -> b.giveDuty(5, 0, 1));
        Edge.refuses("the water behind, for the other", Edge.STATE, rows, b -> b.giveDuty(7, 0, 1));
    }

    private static void dutyNeedsAKindAndADay() {
        Check.sentence("Promise 11", "Throws `IndexOutOfBoundsException` if kind is not 0 to 4, or day is not 0 to 60");
        Edge.range("kind", Edge.INDEX, 0, 4, Camps::used, (b, kind) -> b.duty(1, kind));
        Edge.range("kind on the last day", Edge.INDEX, 0, 4, Camps::used, (b, kind) -> b.duty(60, kind));
        Edge.range("day", Edge.INDEX, 0, 60, Camps::used, (b, day) -> b.duty(day, 0));
        Edge.range("day of the last kind", Edge.INDEX, 0, 60, Camps::used, (b, day) -> b.duty(day, 4));
        Edge.refuses("neither kind nor day", Edge.INDEX, Camps::used, b -> b.duty(61, 5));
        Edge.answers("a past day", 1, Camps::used, b -> b.duty(0, Camps.WATER));
        Edge.answers("today", 0, Camps::used, b -> b.duty(1, Camps.WATCH));
        Edge.answers("the last day", 0, Camps::used, b -> b.duty(60, Camps.DISHES));
        Edge.answers("none", -1, Camps::used, b -> b.duty(60, Camps.WATCH));
    }

    private static void pointsNeedAPatrol() {
        Check.sentence("Promise 12", "Throws `IndexOutOfBoundsException` if there is no such patrol");
        Edge.refuses("the first of none", Edge.INDEX, Camps::empty, b -> b.points(0));
        Edge.range("of three, patrol", Edge.INDEX, 0, 2, Camps::used, CampBook::points);
        Edge.range("of six, patrol", Edge.INDEX, 0, 5, Camps::full, CampBook::points);
    }

    private static void pointsAreOfEachKind() {
        Check.sentence("Terms", "they have 2, 3, 4, 2 and 5 points");
        int[] due = {2, 3, 4, 2, 5};
        for (int kind = 0; kind < 5; kind++) {
            int given = kind;
            Edge.answers("kind " + kind, due[kind], Camps.patrols(12).then(b -> b.giveDuty(9, given, 0)),
                    b -> b.points(0));
        }
    }

    private static void pointsAreOfAllDays() {
        Check.sentence("Terms", "The points of a patrol are those of all duties that it has on all days, 0 to 60.");
        Edge.answers("no duties", 0, Camps.patrols(12), b -> b.points(0));
        Edge.answers("the first and the last day", 10, Camps.patrols(12).then(b -> {
            b.giveDuty(0, Camps.WATCH, 0);
            b.giveDuty(60, Camps.WATCH, 0);
        }).then(ends(60)), b -> b.points(0));
        Edge.answers("the most there can be", 31 * 5 + 30 * 4, Camps.patrols(12).then(b -> {
            for (int day = 0; day <= 60; day++) {
                b.giveDuty(day, day % 2 == 0 ? Camps.WATCH : Camps.COOKING, 0);
            }
        }), b -> b.points(0));
    }

    private static void findDutiesWithNothingToFind() {
        Check.sentence("Promise 13", "Returns how many kinds no patrol has today then.");
        Edge.answers("no patrols", 5, Camps::empty, CampBook::findDuties);
        Edge.changesNothing("no patrols", Camps::empty, CampBook::findDuties);
        Edge.answers("no scouts", 5, Camps.patrols(0, 0, 0, 0, 0, 0), CampBook::findDuties);
        Edge.answers("one patrol", 4, Camps.patrols(12), CampBook::findDuties);
        Edge.answers("five patrols", 0, Camps.patrols(12, 12, 12, 12, 12), CampBook::findDuties);
        Edge.changesNothing("all have one", Camps.patrols(12, 12, 12, 12, 12).then(CampBook::findDuties),
                CampBook::findDuties);
        Edge.answers("six patrols", 0, Camps.patrols(12, 12, 12, 12, 12, 12), CampBook::findDuties);
        Edge.answers("six patrols, where the last one has scouts", 4, Camps.patrols(0, 0, 0, 0, 0, 12),
                CampBook::findDuties);
        Edge.answers("it has the watch then", 5, Camps.patrols(0, 0, 0, 0, 0, 12).then(CampBook::findDuties),
                b -> b.duty(0, Camps.WATCH));
        Edge.answers("five patrols without a watch", 1, Camps.patrols(11, 11, 11, 11, 11), CampBook::findDuties);
        Edge.answers("the last day", 0, Camps.patrols(12, 12, 12, 12, 12).then(ends(60)), CampBook::findDuties);
        Edge.answers("the other days stay without", -1, Camps.patrols(12).then(CampBook::findDuties),
                b -> b.duty(1, Camps.COOKING));
    }

    private static void findDutiesGoesByPointsOfTheKinds() {
        Check.sentence("Promise 13", "in descending order of their points (WATCH, COOKING, WOOD, WATER, DISHES)");
        int[] order = {Camps.WATCH, Camps.COOKING, Camps.WOOD, Camps.WATER, Camps.DISHES};
        for (int had = 0; had < 5; had++) {
            for (int next = had + 1; next < 5; next++) {
                int first = had;
                int second = next;
                // The patrol 0 alone has no kind yet; of the two open ones it gets the first.
                Edge.Ahead twoOpen = Camps.patrols(12, 12, 12, 12).then(b -> {
                    int patrol = 1;
                    for (int i = 0; i < 5; i++) {
                        if (i != first && i != second) {
                            b.giveDuty(0, order[i], patrol++);
                        }
                    }
                });
                Edge.answers("left of " + order[had] + " and " + order[next], 1, twoOpen, CampBook::findDuties);
                Edge.answers("found is " + order[had], 0, twoOpen.then(CampBook::findDuties),
                        b -> b.duty(0, order[first]));
                Edge.answers("left is " + order[next], -1, twoOpen.then(CampBook::findDuties),
                        b -> b.duty(0, order[second]));
            }
        }
    }

    private static void findDutiesGoesByPointsOfThePatrols() {
        Check.sentence("Promise 13", "the one with the fewest points, of several the one with the smallest number");
        Edge.Ahead three = Camps.patrols(12, 12, 12);
        Edge.answers("the same points", 0, three.then(CampBook::findDuties), b -> b.duty(0, Camps.WATCH));
        Edge.answers("the next has the next kind", 1, three.then(CampBook::findDuties),
                b -> b.duty(0, Camps.COOKING));
        Edge.answers("2 points against 0 and 0", 1,
                three.then(b -> b.giveDuty(30, Camps.WATER, 0)).then(CampBook::findDuties),
                b -> b.duty(0, Camps.WATCH));
        Edge.answers("4 points against 5 and 3", 2, three.then(b -> {
            b.giveDuty(60, Camps.COOKING, 0);
            b.giveDuty(60, Camps.WATCH, 1);
            b.giveDuty(60, Camps.WOOD, 2);
        }).then(CampBook::findDuties), b -> b.duty(0, Camps.WATCH));
        Edge.answers("points of a past day", 1, three.then(b -> {
            b.giveDuty(0, Camps.WOOD, 0);
            b.end();
        }).then(CampBook::findDuties), b -> b.duty(1, Camps.WATCH));
    }

    private static void findDutiesGivesAsGiveDuty() {
        Check.sentence("Promise 13", "of the patrols to which it can be given as by giveDuty()");
        Edge.answers("not without scouts", 1, Camps.patrols(0, 12).then(CampBook::findDuties),
                b -> b.duty(0, Camps.WATCH));
        Edge.answers("not the watch at 11", 1, Camps.patrols(11, 12).then(CampBook::findDuties),
                b -> b.duty(0, Camps.WATCH));
        Edge.answers("the cooking at 11", 0, Camps.patrols(11, 12).then(CampBook::findDuties),
                b -> b.duty(0, Camps.COOKING));
        Edge.answers("not with another kind", 1, Camps.patrols(12, 12).then(b -> {
            b.giveDuty(0, Camps.DISHES, 0);
            b.giveDuty(60, Camps.WATCH, 1);
        }).then(CampBook::findDuties), b -> b.duty(0, Camps.WATCH));
        Edge.Ahead yesterday = Camps.patrols(12, 12).then(b -> {
            b.giveDuty(0, Camps.WATCH, 0);
            b.giveDuty(60, Camps.COOKING, 1);
            b.giveDuty(58, Camps.COOKING, 1);
            b.end();
        });
        Edge.answers("not as yesterday", 1, yesterday.then(CampBook::findDuties), b -> b.duty(1, Camps.WATCH));
        Edge.answers("but the next kind", 0, yesterday.then(CampBook::findDuties), b -> b.duty(1, Camps.COOKING));
        Edge.answers("not as tomorrow", 1, Camps.patrols(12, 12).then(b -> {
            b.giveDuty(1, Camps.WATCH, 0);
            b.giveDuty(60, Camps.WATCH, 1);
            b.giveDuty(58, Camps.WATCH, 1);
        }).then(CampBook::findDuties), b -> b.duty(0, Camps.WATCH));
        Check.sentence("Promise 13", "for each kind that no patrol has today");
        Edge.answers("who has it keeps it", 0, Camps.patrols(12, 12).then(b -> {
            b.giveDuty(0, Camps.WATCH, 0);
        }).then(CampBook::findDuties), b -> b.duty(0, Camps.WATCH));
    }
}
