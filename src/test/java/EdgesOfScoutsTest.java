/** The edges of promises 1 to 4 and 9: a new object, addPatrol, addScout, scout, count. */
public final class EdgesOfScoutsTest {
    public static void main(String[] args) {
        newBookHasNothing();
        patrolsAreAtMostSix();
        scoutsArriveWithNothing();
        scoutsNeedAPatrol();
        agesAndSkillsHaveRanges();
        scoutsAreAtMostThirty();
        firstNamedExceptionOfAddScout();
        scoutTellsOfEachScoutThere();
        factsAreSevenOfEach();
        scoutTellsEmptyAndFullSets();
        countsAreSeven();
        countsGoFromNoneToAll();
        countOfTheTentless();
        Check.end();
    }

    private static void newBookHasNothing() {
        Check.sentence("Promise 1",
                "Creates a book without patrols, scouts, tents, foods, meals and badges, on day 0.");
        for (int what = 0; what < 7; what++) {
            int asked = what;
            Edge.answers("count(" + what + ")", 0, Camps::empty, book -> book.count(asked));
        }
        Edge.answers("day", 0, Camps::empty, CampBook::day);
        Edge.refuses("no patrol 0", Edge.INDEX, Camps::empty, book -> book.points(0));
        Edge.refuses("no scout 0", Edge.INDEX, Camps::empty, book -> book.scout(0, 0));
        Edge.refuses("no tent 0", Edge.INDEX, Camps::empty, book -> book.inTent(0));
        Edge.refuses("no food 0", Edge.INDEX, Camps::empty, book -> book.store(0));
        Edge.refuses("no meal 0", Edge.INDEX, Camps::empty, book -> book.eaters(0));
        Edge.refuses("no badge 0", Edge.INDEX, Camps::empty, book -> book.want(0, 0, 0));
        CampBook used = Edge.made(Camps::used);
        Edge.answers("a book beside one that is used", 0, Camps::empty, book -> book.count(0) + book.day());
        Check.numbers("the used one", used.day(), 1);
    }

    private static void patrolsAreAtMostSix() {
        Check.sentence("Terms", "There are at most 6, numbered from 0 in the order of their creation.");
        CampBook book = new CampBook();
        for (int patrol = 0; patrol < 6; patrol++) {
            Check.numbers("patrol " + patrol, book.addPatrol(), patrol);
        }
        Check.sentence("Promise 2", "Throws `IllegalStateException` if there are 6");
        Edge.Ahead six = Camps.patrols(10, 0, 0, 0, 0, 12);
        Edge.refuses("the patrol 6", Edge.STATE, six, CampBook::addPatrol);
        Edge.refuses("the patrol 6 of a full camp", Edge.STATE, Camps::full, CampBook::addPatrol);
        Edge.refuses("the patrol 7", Edge.STATE, six.then(b -> Edge.outcome(CampBook::addPatrol, b)),
                CampBook::addPatrol);
    }

    private static void scoutsArriveWithNothing() {
        Check.sentence("Promise 3", "Adds a scout, who sleeps in no tent.");
        Edge.Ahead another = book -> {
            Camps.used(book);
            book.addScout(2, 17, 255);
        };
        int[] due = {2, 17, 255, 0, -1, 0, 0};
        for (int what = 0; what < 7; what++) {
            int asked = what;
            Edge.answers("fact " + what, due[what], another, book -> book.scout(5, asked));
        }
        Edge.answers("it ate nothing today", 2, another, book -> book.table(0));
    }

    private static void scoutsNeedAPatrol() {
        Check.sentence("Promise 3", "Throws `IndexOutOfBoundsException` if there is no such patrol");
        Edge.refuses("in a book without patrols", Edge.INDEX, Camps::empty, b -> b.addScout(0, 10, 0));
        Edge.range("of one, patrol", Edge.INDEX, 0, 0, Camps.of(10), (b, patrol) -> b.addScout(patrol, 10, 0));
        Edge.range("of three, patrol", Edge.INDEX, 0, 2, Camps::used, (b, patrol) -> b.addScout(patrol, 10, 0));
        Edge.range("of six, patrol", Edge.INDEX, 0, 5, Camps.patrols(6, 6, 6, 6, 6, 6),
                (b, patrol) -> b.addScout(patrol, 10, 0));
    }

    private static void agesAndSkillsHaveRanges() {
        Check.sentence("Promise 3",
                "Throws `IllegalArgumentException` if age is not 6 to 17, or skills is not 0 to 255");
        Edge.range("age", Edge.ARGUMENT, 6, 17, Camps::used, (b, age) -> b.addScout(1, age, 5));
        Edge.range("skills", Edge.ARGUMENT, 0, 255, Camps::used, (b, skills) -> b.addScout(1, 10, skills));
        for (int age : new int[] {6, 17}) {
            Edge.answers("age " + age + " is kept", age, Camps.of().then(b -> b.addScout(0, age, 0)),
                    b -> b.scout(0, 1));
        }
        for (int skills : new int[] {0, 1, 128, 255}) {
            Edge.answers("skills " + skills + " are kept", skills, Camps.of().then(b -> b.addScout(0, 8, skills)),
                    b -> b.scout(0, 2));
        }
    }

    private static void scoutsAreAtMostThirty() {
        Check.sentence("Promise 3", "Throws `IllegalStateException` if there are 30");
        CampBook book = Edge.made(Camps.patrols(0, 0));
        for (int scout = 0; scout < 30; scout++) {
            Check.numbers("scout " + scout, book.addScout(scout % 2, 6, 0), scout);
        }
        Edge.refuses("the scout 30", Edge.STATE, Camps.of().then(EdgesOfScoutsTest::thirty),
                b -> b.addScout(0, 10, 1));
        for (int patrol : new int[] {0, 5}) {
            Edge.refuses("the scout 30 of patrol " + patrol, Edge.STATE, Camps::full,
                    b -> b.addScout(patrol, 17, 255));
        }
    }

    private static void thirty(CampBook book) {
        for (int i = book.count(1); i < 30; i++) {
            book.addScout(0, 9, 0);
        }
    }

    private static void firstNamedExceptionOfAddScout() {
        Check.sentence("Terms", "If several exceptions apply, the one that is named first is thrown.");
        Edge.refuses("no patrol, a wrong age", Edge.INDEX, Camps::used, b -> b.addScout(3, 5, 0));
        Edge.refuses("no patrol, wrong skills", Edge.INDEX, Camps::used, b -> b.addScout(-1, 10, 256));
        Edge.refuses("no patrol, 30 scouts", Edge.INDEX, Camps::full, b -> b.addScout(6, 10, 0));
        Edge.refuses("all three", Edge.INDEX, Camps::full, b -> b.addScout(-1, 18, -1));
        Edge.refuses("a wrong age, 30 scouts", Edge.ARGUMENT, Camps::full, b -> b.addScout(0, 5, 0));
        Edge.refuses("wrong skills, 30 scouts", Edge.ARGUMENT, Camps::full, b -> b.addScout(5, 10, 256));
    }

    private static void scoutTellsOfEachScoutThere() {
        Check.sentence("Promise 4",
                "Throws `IndexOutOfBoundsException` if there is no such scout, or what is not 0 to 6");
        Edge.refusesOutside("of none, scout", Edge.INDEX, 0, -1, Camps.of(), (b, scout) -> b.scout(scout, 0));
        Edge.refuses("of none, scout 0", Edge.INDEX, Camps.of(), b -> b.scout(0, 0));
        for (int what = 0; what < 7; what++) {
            int asked = what;
            Edge.range("fact " + what + " of scout", Edge.INDEX, 0, 4, Camps::used,
                    (b, scout) -> b.scout(scout, asked));
        }
        Edge.range("of thirty, scout", Edge.INDEX, 0, 29, Camps::full, (b, scout) -> b.scout(scout, 1));
    }

    private static void factsAreSevenOfEach() {
        Check.sentence("Promise 4",
                "Throws `IndexOutOfBoundsException` if there is no such scout, or what is not 0 to 6");
        Edge.range("what", Edge.INDEX, 0, 6, Camps::used, (b, what) -> b.scout(4, what));
        Edge.refuses("no scout and no such fact", Edge.INDEX, Camps::used, b -> b.scout(5, 7));
    }

    private static void scoutTellsEmptyAndFullSets() {
        Check.sentence("Terms", "Sets are told as the sums of the powers 2^k of the numbers k in them.");
        Edge.answers("no skills", 0, Camps::full, b -> b.scout(0, 2));
        Edge.answers("the skills of the last", 232, Camps::full, b -> b.scout(29, 2));
        Edge.answers("it eats all foods", 0, Camps::full, b -> b.scout(28, 3));
        Edge.answers("it eats not the last food", 2048, Camps::full, b -> b.scout(29, 3));
        Edge.answers("it eats none of all foods", 4095, Camps::full, b -> {
            for (int food = 0; food < 12; food++) {
                b.diet(28, food, false);
            }
            return b.scout(28, 3);
        });
        Edge.answers("no badges", 0, Camps::full, b -> b.scout(29, 5));
        Edge.answers("all badges", 255, Camps::full, b -> {
            for (int badge = 0; badge < 8; badge++) {
                b.earn(11, badge);
            }
            return b.scout(11, 5);
        });
    }

    private static void countsAreSeven() {
        Check.sentence("Promise 9", "Throws `IndexOutOfBoundsException` if what is not 0 to 6");
        Edge.range("in an empty book, what", Edge.INDEX, 0, 6, Camps::empty, CampBook::count);
        Edge.range("in a full book, what", Edge.INDEX, 0, 6, Camps::full, CampBook::count);
    }

    private static void countsGoFromNoneToAll() {
        Check.sentence("Promise 9", "Returns how many there are.");
        int[] used = {3, 5, 3, 2, 3, 3, 2};
        int[] full = {6, 30, 10, 29, 12, 10, 8};
        for (int what = 0; what < 7; what++) {
            int asked = what;
            Edge.answers("used: count(" + what + ")", used[what], Camps::used, b -> b.count(asked));
            Edge.answers("full: count(" + what + ")", full[what], Camps::full, b -> b.count(asked));
        }
    }

    private static void countOfTheTentless() {
        Check.sentence("Promise 9", "3 scouts that sleep in no tent");
        Edge.Ahead two = Camps.of(10, 10).then(b -> b.addTent(2));
        Edge.answers("none sleeps in one", 2, two, b -> b.count(3));
        Edge.answers("one does", 1, two.then(b -> b.sleep(1, 0)), b -> b.count(3));
        Edge.Ahead both = two.then(b -> b.sleep(1, 0)).then(b -> b.sleep(0, 0));
        Edge.answers("both do", 0, both, b -> b.count(3));
        Edge.answers("one has left", 1, both.then(b -> b.sleep(0, -1)), b -> b.count(3));
    }
}
