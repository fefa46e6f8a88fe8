/** The edges of promises 24 to 29: addBadge, want, practise, away, earn, hike. */
public final class EdgesOfBadgesTest {
    public static void main(String[] args) {
        leastAgesHaveARange();
        badgesAreAtMostEight();
        badgesBeginWithoutHours();
        wantNeedsABadgeAndAnActivity();
        wantedHoursAreZeroToHundred();
        practiseNeedsAPatrolAndAnActivity();
        practisedHoursAreOneToTwentyFour();
        practiseIsForAllOfThePatrol();
        awayNeedsAScoutAndABadge();
        awayTellsTheLeastAge();
        awayTellsTheHours();
        awayTellsTheBadge();
        earnNeedsAScoutAndABadge();
        earnNeedsTheAge();
        earnNeedsAllHours();
        badgesAreHadOnce();
        allBadgesAreHad();
        hikesHaveASetOfScouts();
        hikesHaveALengthAndAClimb();
        firstNamedExceptionOfHike();
        hikesNeedAScoutOfFourteen();
        hikesNeedTheSkillOne();
        anyScoutLeadsTheHike();
        pacesGoByAgeAndSkill();
        slowestPaceCounts();
        climbsCountByFullHundreds();
        restsCountByFullHours();
        Check.end();
    }

    private static void leastAgesHaveARange() {
        Check.sentence("Promise 24", "Throws `IllegalArgumentException` if age is not 6 to 17");
        Edge.range("age", Edge.ARGUMENT, 6, 17, Camps::empty, CampBook::addBadge);
        Edge.range("in a used book, age", Edge.ARGUMENT, 6, 17, Camps::used, CampBook::addBadge);
    }

    private static void badgesAreAtMostEight() {
        Check.sentence("Promise 24", "Throws `IllegalStateException` if there are 8");
        CampBook book = new CampBook();
        for (int badge = 0; badge < 8; badge++) {
            Check.numbers("badge " + badge, book.addBadge(6 + badge), badge);
        }
        Edge.refuses("the badge 8", Edge.STATE, Camps::full, b -> b.addBadge(6));
        Edge.refuses("the badge 8 for the oldest", Edge.STATE, Camps::full, b -> b.addBadge(17));
        Check.sentence("Terms", "If several exceptions apply, the one that is named first is thrown.");
        Edge.refuses("8 badges, an age too small", Edge.ARGUMENT, Camps::full, b -> b.addBadge(5));
        Edge.refuses("8 badges, an age too great", Edge.ARGUMENT, Camps::full, b -> b.addBadge(18));
    }

    /** One patrol with a scout of this age, and a badge for this age. */
    private static Edge.Ahead badge(int scoutAge, int badgeAge) {
        return Camps.of(scoutAge).then(b -> b.addBadge(badgeAge));
    }

    private static void badgesBeginWithoutHours() {
        Check.sentence("Promise 24", "Adds a badge that wants no hours yet.");
        for (int activity = 0; activity < 10; activity++) {
            int asked = activity;
            Edge.answers("activity " + activity, 0, badge(9, 9), b -> b.want(0, asked, 100));
        }
        Edge.answers("nothing lacks", 0, badge(9, 9), b -> b.away(0, 0));
        Edge.answers("it is earned at once", 1, badge(9, 9), b -> b.earn(0, 0));
    }

    private static void wantNeedsABadgeAndAnActivity() {
        Check.sentence("Promise 25",
                "Throws `IndexOutOfBoundsException` if there is no such badge, or activity is not 0 to 9");
        Edge.refuses("the first of none", Edge.INDEX, Camps.of(9), b -> b.want(0, 0, 1));
        Edge.range("of two, badge", Edge.INDEX, 0, 1, Camps::used, (b, badge) -> b.want(badge, 9, 7));
        Edge.range("of eight, badge", Edge.INDEX, 0, 7, Camps::full, (b, badge) -> b.want(badge, 0, 7));
        Edge.range("activity", Edge.INDEX, 0, 9, Camps::used, (b, activity) -> b.want(0, activity, 7));
        Edge.range("activity of the last badge", Edge.INDEX, 0, 9, Camps::full,
                (b, activity) -> b.want(7, activity, 7));
        Check.sentence("Terms", "If several exceptions apply, the one that is named first is thrown.");
        Edge.refuses("no badge, hours too few", Edge.INDEX, Camps::used, b -> b.want(2, 0, -1));
        Edge.refuses("no activity, hours too many", Edge.INDEX, Camps::used, b -> b.want(0, 10, 101));
    }

    private static void wantedHoursAreZeroToHundred() {
        Check.sentence("Promise 25", "Throws `IllegalArgumentException` if hours is not 0 to 100");
        Edge.range("hours", Edge.ARGUMENT, 0, 100, Camps::used, (b, hours) -> b.want(1, 9, hours));
        for (int hours : new int[] {0, 1, 99, 100}) {
            Edge.Ahead wanted = badge(9, 9).then(b -> b.want(0, 9, hours));
            Edge.answers(hours + " hours are kept", hours, wanted, b -> b.want(0, 9, 5));
            Edge.answers(hours + " hours are wanted", hours, wanted, b -> b.away(0, 0));
            Edge.answers(hours + " hours are wanted no more", 0, wanted.then(b -> b.want(0, 9, 0)),
                    b -> b.away(0, 0));
        }
        Edge.answers("the most there can be", 1000, badge(9, 9), b -> {
            for (int activity = 0; activity < 10; activity++) {
                b.want(0, activity, 100);
            }
            return b.away(0, 0);
        });
    }

    private static void practiseNeedsAPatrolAndAnActivity() {
        Check.sentence("Promise 26",
                "Throws `IndexOutOfBoundsException` if there is no such patrol, or activity is not 0 to 9");
        Edge.refuses("the first of none", Edge.INDEX, Camps::empty, b -> b.practise(0, 0, 1));
        Edge.range("of three, patrol", Edge.INDEX, 0, 2, Camps::used, (b, patrol) -> b.practise(patrol, 9, 1));
        Edge.range("of six, patrol", Edge.INDEX, 0, 5, Camps::full, (b, patrol) -> b.practise(patrol, 0, 1));
        Edge.range("activity", Edge.INDEX, 0, 9, Camps::used, (b, activity) -> b.practise(0, activity, 1));
        Edge.range("activity of the last patrol", Edge.INDEX, 0, 9, Camps::full,
                (b, activity) -> b.practise(5, activity, 1));
        Check.sentence("Terms", "If several exceptions apply, the one that is named first is thrown.");
        Edge.refuses("no patrol, no hours", Edge.INDEX, Camps::used, b -> b.practise(3, 0, 0));
        Edge.refuses("no activity, hours too many", Edge.INDEX, Camps::used, b -> b.practise(0, 10, 25));
    }

    private static void practisedHoursAreOneToTwentyFour() {
        Check.sentence("Promise 26", "Throws `IllegalArgumentException` if hours is not 1 to 24");
        Edge.range("hours", Edge.ARGUMENT, 1, 24, Camps::used, (b, hours) -> b.practise(0, 9, hours));
        Edge.range("of no scouts, hours", Edge.ARGUMENT, 1, 24, Camps::used, (b, hours) -> b.practise(2, 9, hours));
        for (int hours : new int[] {1, 2, 23, 24}) {
            Edge.answers(hours + " hours are noted", hours, Camps.of(9).then(b -> b.practise(0, 9, hours)),
                    b -> b.scout(0, 6));
        }
    }

    private static void practiseIsForAllOfThePatrol() {
        Check.sentence("Promise 26", "each of its scouts gets them");
        Edge.answers("no scouts", 0, Camps::used, b -> b.practise(2, 0, 5));
        Edge.changesNothing("for no scouts", Camps::used, b -> b.practise(2, 0, 5));
        Edge.answers("all thirty", 30, Camps.of().then(b -> {
            for (int i = 0; i < 30; i++) {
                b.addScout(0, 9, 0);
            }
        }), b -> b.practise(0, 0, 5));
        int[] due = {15, 15, 15, 4, 4};
        for (int scout = 0; scout < 5; scout++) {
            int asked = scout;
            Edge.answers("scout " + scout, due[scout], b -> {
                Camps.used(b);
                b.practise(0, 9, 5);
            }, b -> b.scout(asked, 6));
        }
        Edge.answers("a scout that comes later", 0,
                Camps.of(9).then(b -> b.practise(0, 0, 5)).then(b -> b.addScout(0, 9, 0)), b -> b.scout(1, 6));
    }

    private static void awayNeedsAScoutAndABadge() {
        Check.sentence("Promise 27", "Throws `IndexOutOfBoundsException` if there is no such scout or badge");
        Edge.refuses("the first of no scouts", Edge.INDEX, Camps.of().then(b -> b.addBadge(6)), b -> b.away(0, 0));
        Edge.refuses("the first of no badges", Edge.INDEX, Camps.of(9), b -> b.away(0, 0));
        Edge.range("of five, scout", Edge.INDEX, 0, 4, Camps::used, (b, scout) -> b.away(scout, 1));
        Edge.range("of thirty, scout", Edge.INDEX, 0, 29, Camps::full, (b, scout) -> b.away(scout, 7));
        Edge.range("of two, badge", Edge.INDEX, 0, 1, Camps::used, (b, badge) -> b.away(4, badge));
        Edge.range("of eight, badge", Edge.INDEX, 0, 7, Camps::full, (b, badge) -> b.away(29, badge));
    }

    private static void awayTellsTheLeastAge() {
        Check.sentence("Promise 27", "-1 if it is too young");
        for (int age = 7; age <= 17; age++) {
            Edge.answers("a year too young for " + age, -1, badge(age - 1, age), b -> b.away(0, 0));
            Edge.answers("just old enough for " + age, 0, badge(age, age), b -> b.away(0, 0));
        }
        Edge.answers("the youngest for the youngest", 0, badge(6, 6), b -> b.away(0, 0));
        Edge.answers("the youngest for the oldest", -1, badge(6, 17), b -> b.away(0, 0));
        Edge.answers("the oldest for the youngest", 0, badge(17, 6), b -> b.away(0, 0));
        Edge.answers("too young, and hours lack", -1, badge(9, 10).then(b -> b.want(0, 0, 5)), b -> b.away(0, 0));
    }

    private static void awayTellsTheHours() {
        Check.sentence("Promise 27", "Returns how many hours the scout still lacks for the badge, over all activities");
        Edge.Ahead two = badge(9, 9).then(b -> {
            b.want(0, 0, 3);
            b.want(0, 9, 4);
        });
        Edge.answers("all", 7, two, b -> b.away(0, 0));
        Edge.answers("one of each less", 5, two.then(b -> {
            b.practise(0, 0, 1);
            b.practise(0, 9, 1);
        }), b -> b.away(0, 0));
        Edge.answers("none in the first", 4, two.then(b -> b.practise(0, 0, 3)), b -> b.away(0, 0));
        Edge.answers("more than wanted in the first", 4, two.then(b -> b.practise(0, 0, 24)), b -> b.away(0, 0));
        Edge.answers("hours in what it wants not", 7, two.then(b -> b.practise(0, 5, 24)), b -> b.away(0, 0));
        Edge.answers("one", 1, two.then(b -> {
            b.practise(0, 0, 3);
            b.practise(0, 9, 3);
        }), b -> b.away(0, 0));
        Edge.answers("none", 0, two.then(b -> {
            b.practise(0, 0, 3);
            b.practise(0, 9, 4);
        }), b -> b.away(0, 0));
        Edge.answers("none, and more", 0, two.then(b -> {
            b.practise(0, 0, 24);
            b.practise(0, 9, 24);
        }), b -> b.away(0, 0));
        Edge.changesNothing("asking", Camps::used, b -> b.away(3, 1));
    }

    private static void awayTellsTheBadge() {
        Check.sentence("Promise 27", "-2 if it has the badge");
        Edge.Ahead earned = badge(9, 9).then(b -> b.earn(0, 0));
        Edge.answers("it has it", -2, earned, b -> b.away(0, 0));
        Edge.answers("it has it, and hours lack now", -2, earned.then(b -> b.want(0, 0, 5)), b -> b.away(0, 0));
        Edge.answers("another has it", 0, earned.then(b -> b.addScout(0, 9, 0)), b -> b.away(1, 0));
        Edge.answers("it has another", 0, earned.then(b -> b.addBadge(9)), b -> b.away(0, 1));
    }

    private static void earnNeedsAScoutAndABadge() {
        Check.sentence("Promise 28", "Throws `IndexOutOfBoundsException` if there is no such scout or badge");
        Edge.refuses("the first of no scouts", Edge.INDEX, Camps.of().then(b -> b.addBadge(6)), b -> b.earn(0, 0));
        Edge.refuses("the first of no badges", Edge.INDEX, Camps.of(9), b -> b.earn(0, 0));
        Edge.Ahead two = Camps.of(9, 9).then(b -> b.addBadge(6)).then(b -> b.addBadge(6));
        Edge.range("of two, scout", Edge.INDEX, 0, 1, two, (b, scout) -> b.earn(scout, 1));
        Edge.range("of two, badge", Edge.INDEX, 0, 1, two, (b, badge) -> b.earn(1, badge));
        Edge.refusesOutside("of thirty, scout", Edge.INDEX, 0, 29, Camps::full, (b, scout) -> b.earn(scout, 0));
        Edge.refusesOutside("of eight, badge", Edge.INDEX, 0, 7, Camps::full, (b, badge) -> b.earn(29, badge));
        Edge.refusesOutside("of one that has it, badge", Edge.INDEX, 0, 1, Camps::used,
                (b, badge) -> b.earn(0, badge));
    }

    private static void earnNeedsTheAge() {
        Check.sentence("Promise 28", "Throws `IllegalStateException` if it is too young, has it, or lacks hours");
        for (int age = 7; age <= 17; age++) {
            Edge.refuses("a year too young for " + age, Edge.STATE, badge(age - 1, age), b -> b.earn(0, 0));
            Edge.answers("just old enough for " + age, 1, badge(age, age), b -> b.earn(0, 0));
        }
        Edge.answers("the youngest for the youngest", 1, badge(6, 6), b -> b.earn(0, 0));
        Edge.refuses("with all hours, too young", Edge.STATE, Camps::used, b -> b.earn(2, 0));
    }

    private static void earnNeedsAllHours() {
        Check.sentence("Promise 28", "Throws `IllegalStateException` if it is too young, has it, or lacks hours");
        for (int activity = 0; activity < 10; activity++) {
            int wanted = activity;
            Edge.Ahead one = badge(9, 9).then(b -> b.want(0, wanted, 3)).then(b -> b.practise(0, wanted, 2));
            Edge.refuses("an hour lacks in " + wanted, Edge.STATE, one, b -> b.earn(0, 0));
            Edge.refuses("an hour lacks in " + wanted + ", others don't help", Edge.STATE,
                    one.then(b -> b.practise(0, (wanted + 1) % 10, 24)), b -> b.earn(0, 0));
            Edge.answers("none lacks in " + wanted, 1, one.then(b -> b.practise(0, wanted, 1)), b -> b.earn(0, 0));
            Edge.answers("it wants less in " + wanted, 1, one.then(b -> b.want(0, wanted, 2)), b -> b.earn(0, 0));
        }
        Edge.refuses("one activity of two lacks", Edge.STATE, Camps::used, b -> b.earn(3, 1));
    }

    private static void badgesAreHadOnce() {
        Check.sentence("Terms", "hours are not used up; it can have each badge once");
        Edge.refuses("it has it", Edge.STATE, Camps::used, b -> b.earn(0, 0));
        Edge.refuses("it has it, which wants no hours", Edge.STATE, badge(9, 9).then(b -> b.earn(0, 0)),
                b -> b.earn(0, 0));
        Edge.answers("another scout earns it", 1, Camps::used, b -> b.earn(1, 0));
        Edge.answers("its hours stay", 10, Camps::used, b -> b.scout(0, 6));
        Edge.answers("the same hours for another badge", 2, b -> {
            Camps.used(b);
            b.want(b.addBadge(14), 3, 10);
        }, b -> b.earn(0, 2));
    }

    private static void allBadgesAreHad() {
        Check.sentence("Promise 28", "Returns how many badges it has then.");
        CampBook book = Edge.made(Camps.of(9).then(b -> {
            for (int badge = 0; badge < 8; badge++) {
                b.addBadge(9);
            }
        }));
        for (int badge = 7; badge >= 0; badge--) {
            Check.numbers("badge " + badge, book.earn(0, badge), 8 - badge);
        }
        Check.numbers("the set of all", book.scout(0, 5), 255);
    }

    /** Scout 0 of 14 with the skill 1, then scouts of these ages with these skills. */
    private static Edge.Ahead hikers(int age, int skills) {
        return book -> {
            book.addPatrol();
            book.addScout(0, 14, 2);
            book.addScout(0, age, skills);
        };
    }

    private static void refusesHike(String what, Class<?> due, Edge.Ahead ahead, long scouts, int length, int climb) {
        Edge.refuses(what, due, ahead, b -> b.hike(scouts, length, climb));
    }

    private static void hikesHaveASetOfScouts() {
        Check.sentence("Promise 29", "Throws `IllegalArgumentException` if the set is empty "
                + "or has a scout that is not there, length is not 1 to 50, or climb is not 0 to 3000");
        refusesHike("nobody", Edge.ARGUMENT, Camps::used, 0, 1, 0);
        refusesHike("nobody of nobody", Edge.ARGUMENT, Camps::empty, 0, 1, 0);
        refusesHike("the first of nobody", Edge.ARGUMENT, Camps::empty, 1, 1, 0);
        for (int scout = 5; scout < 64; scout++) {
            refusesHike("the scout " + scout, Edge.ARGUMENT, Camps::used, 1L << scout, 1, 0);
            refusesHike("the first and the scout " + scout, Edge.ARGUMENT, Camps::used, 1L << scout | 1, 1, 0);
        }
        refusesHike("all that could be", Edge.ARGUMENT, Camps::used, -1, 1, 0);
        refusesHike("the greatest set", Edge.ARGUMENT, Camps::used, Long.MAX_VALUE, 1, 0);
        Edge.Ahead thirty = Camps.of(10).then(b -> {
            for (int i = 1; i < 30; i++) {
                b.addScout(0, 14, 2);
            }
        });
        Edge.answers("all that are there", 12 + 4, thirty, b -> b.hike(Camps.ALL, 1, 0));
        Edge.answers("the last of thirty", 12, thirty, b -> b.hike(1L << 29, 1, 0));
        refusesHike("all and the scout 30", Edge.ARGUMENT, thirty, Camps.ALL | 1L << 30, 1, 0);
        refusesHike("the scout 31", Edge.ARGUMENT, thirty, 1L << 31, 1, 0);
        refusesHike("the scout 32, who is not the scout 0", Edge.ARGUMENT, thirty, 1L << 32, 1, 0);
        refusesHike("the scout 63", Edge.ARGUMENT, thirty, Long.MIN_VALUE | 2, 1, 0);
    }

    private static void hikesHaveALengthAndAClimb() {
        Check.sentence("Promise 29", "Throws `IllegalArgumentException` if the set is empty "
                + "or has a scout that is not there, length is not 1 to 50, or climb is not 0 to 3000");
        Edge.range("length", Edge.ARGUMENT, 1, 50, Camps::used, (b, length) -> b.hike(1, length, 0));
        Edge.range("climb", Edge.ARGUMENT, 0, 3000, Camps::used, (b, climb) -> b.hike(1, 1, climb));
        Edge.answers("the shortest", 10, hikers(17, 3), b -> b.hike(2, 1, 0));
        Edge.answers("the longest", 1300 + 21 * 5, hikers(6, 0), b -> b.hike(3, 50, 3000));
    }

    private static void firstNamedExceptionOfHike() {
        Check.sentence("Terms", "If several exceptions apply, the one that is named first is thrown.");
        refusesHike("none of 14, no length", Edge.ARGUMENT, Camps::used, 4, 0, 0);
        refusesHike("none of 14, too long", Edge.ARGUMENT, Camps::used, 4, 51, 0);
        refusesHike("none of 14, a climb too small", Edge.ARGUMENT, Camps::used, 4, 1, -1);
        refusesHike("none of 14, a climb too great", Edge.ARGUMENT, Camps::used, 4, 1, 3001);
        refusesHike("none of 14, one that is not there", Edge.ARGUMENT, Camps::used, 4 | 32, 1, 0);
    }

    private static void hikesNeedAScoutOfFourteen() {
        Check.sentence("Promise 29", "Throws `IllegalStateException` if none of them is at least 14, "
                + "or none of them has the skill 1");
        refusesHike("one of 13 with all skills", Edge.STATE, hikers(13, 255), 2, 1, 0);
        refusesHike("the one of 14 stays at home", Edge.STATE, Camps::used, 16, 1, 0);
        for (int age = 14; age <= 17; age++) {
            Edge.answers("one of " + age, 12, hikers(age, 2), b -> b.hike(2, 1, 0));
        }
        Edge.answers("one of 14 for one of 13", 13, hikers(13, 0), b -> b.hike(3, 1, 0));
    }

    private static void hikesNeedTheSkillOne() {
        Check.sentence("Promise 29", "Throws `IllegalStateException` if none of them is at least 14, "
                + "or none of them has the skill 1");
        refusesHike("no skills", Edge.STATE, hikers(17, 0), 2, 1, 0);
        refusesHike("all skills but this", Edge.STATE, hikers(17, 253), 2, 1, 0);
        for (int skill : new int[] {0, 2, 3, 4, 5, 6, 7}) {
            refusesHike("the skill " + skill, Edge.STATE, hikers(17, 1 << skill), 2, 1, 0);
        }
        Edge.answers("this skill alone", 12, hikers(17, 2), b -> b.hike(2, 1, 0));
        Edge.answers("it of one, the age of the other", 13, Camps.of(14).then(b -> b.addScout(0, 13, 2)),
                b -> b.hike(3, 1, 0));
        refusesHike("neither age nor skill", Edge.STATE, hikers(13, 253), 2, 1, 0);
        refusesHike("the first scout without it", Edge.STATE, Camps.of(14), 1, 1, 0);
    }

    private static void anyScoutLeadsTheHike() {
        Check.sentence("Promise 29", "Throws `IllegalStateException` if none of them is at least 14, "
                + "or none of them has the skill 1");
        for (int scout = 0; scout < 30; scout++) {
            int leader = scout;
            Edge.Ahead old = Camps.of().then(b -> {
                for (int i = 0; i < 30; i++) {
                    b.addScout(0, i == leader ? 14 : 13, 2);
                }
            });
            Edge.answers("of 14 is the scout " + scout, 13, old, b -> b.hike(Camps.ALL, 1, 0));
            refusesHike("the others without the scout " + scout, Edge.STATE, old, Camps.ALL - (1L << leader), 1, 0);
            Edge.Ahead skilled = Camps.of().then(b -> {
                for (int i = 0; i < 30; i++) {
                    b.addScout(0, 14, i == leader ? 2 : 253);
                }
            });
            Edge.answers("skilled is the scout " + scout, 12, skilled, b -> b.hike(Camps.ALL, 1, 0));
            refusesHike("the others without the scout " + scout, Edge.STATE, skilled, Camps.ALL - (1L << leader), 1, 0);
        }
    }

    private static void pacesGoByAgeAndSkill() {
        Check.sentence("Promise 29", "The pace of a scout is 12 minutes for a kilometre, "
                + "and 1 more for each year by which it is younger than 14, and 2 less with the skill 0");
        for (int age = 6; age <= 17; age++) {
            int pace = age < 14 ? 26 - age : 12;
            int shown = Math.max(12, pace);
            Edge.answers("without the skill at " + age, shown, hikers(age, 254), b -> b.hike(3, 1, 0));
            // The scout 0 goes at 12, so that the faster ones show only alone.
            Edge.answers("with the skill at " + age, Math.max(12, pace - 2), hikers(age, 1), b -> b.hike(3, 1, 0));
        }
        for (int age = 14; age <= 17; age++) {
            Edge.answers("alone with the skill at " + age, 10, hikers(age, 3), b -> b.hike(2, 1, 0));
            Edge.answers("alone without the skill at " + age, 12, hikers(age, 254), b -> b.hike(2, 1, 0));
        }
    }

    private static void slowestPaceCounts() {
        Check.sentence("Promise 29", "a hike goes at the slowest pace of all that go");
        Edge.Ahead three = hikers(9, 0).then(b -> b.addScout(0, 6, 1)).then(b -> b.addScout(0, 17, 3));
        Edge.answers("the fastest alone", 10, three, b -> b.hike(8, 1, 0));
        Edge.answers("the first is slower", 12, three, b -> b.hike(9, 1, 0));
        Edge.answers("one of 9", 17, three, b -> b.hike(11, 1, 0));
        Edge.answers("one of 6 with the skill", 18, three, b -> b.hike(15, 1, 0));
        Edge.answers("the slowest stays at home", 17, three, b -> b.hike(10, 1, 0));
    }

    private static void climbsCountByFullHundreds() {
        Check.sentence("Promise 29", "for each full 100 metres of climb 10 minutes more are needed");
        int[] climbs = {0, 1, 99, 100, 101, 199, 200, 399, 400};
        int[] due = {12, 12, 12, 22, 22, 22, 32, 42, 52};
        for (int i = 0; i < climbs.length; i++) {
            int climb = climbs[i];
            Edge.answers("a climb of " + climb, due[i], hikers(14, 0), b -> b.hike(1, 1, climb));
        }
        Edge.answers("a climb of 2999", 302 + 25, hikers(14, 0), b -> b.hike(1, 1, 2999));
        Edge.answers("a climb of 3000", 312 + 25, hikers(14, 0), b -> b.hike(1, 1, 3000));
    }

    private static void restsCountByFullHours() {
        Check.sentence("Promise 29", "for each full hour so far (by these minutes) a rest of 5 minutes");
        Edge.answers("48 minutes", 48, hikers(14, 0), b -> b.hike(1, 4, 0));
        Edge.answers("59 minutes", 59, hikers(13, 0), b -> b.hike(3, 3, 200));
        Edge.answers("60 minutes", 65, hikers(14, 0), b -> b.hike(1, 5, 0));
        Edge.answers("60 minutes with the climb", 65, hikers(17, 3), b -> b.hike(2, 1, 500));
        Edge.answers("119 minutes", 124, hikers(13, 0), b -> b.hike(3, 3, 800));
        Edge.answers("120 minutes", 130, hikers(14, 0), b -> b.hike(1, 10, 0));
        Edge.answers("110 minutes, and 5 of rest are no hour more", 115, hikers(17, 3), b -> b.hike(2, 11, 0));
        Edge.answers("600 minutes", 650, hikers(14, 0), b -> b.hike(1, 50, 0));
    }
}
