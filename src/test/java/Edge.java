import java.util.ArrayList;
import java.util.List;

/**
 * Asks at the edges that the document names. Each question goes to books made anew by the same calls,
 * so that no book sees more than the 512 calls for which its answers are promised.
 */
final class Edge {
    static final Class<?> STATE = IllegalStateException.class;
    static final Class<?> ARGUMENT = IllegalArgumentException.class;
    static final Class<?> INDEX = IndexOutOfBoundsException.class;

    /** The calls ahead of the one that is asked about. */
    interface Ahead {
        void on(CampBook book);

        default Ahead then(Ahead next) {
            return book -> {
                on(book);
                next.on(book);
            };
        }
    }

    /** A call of the face, whose answer is boxed. */
    interface Call {
        Object on(CampBook book);
    }

    /** A call with one argument that has a range. */
    interface RangeCall {
        Object on(CampBook book, int argument);
    }

    private static final List<Call> LOOKS = List.of(
            Edge::facts, Edge::distances, Edge::allDuties, Edge::allNeeds, Edge::allWants, Edge::newcomers);

    private Edge() {
    }

    static CampBook made(Ahead ahead) {
        CampBook book = new CampBook();
        ahead.on(book);
        return book;
    }

    /** The answer, numbers as long, or the class of the exception, which must be no class below it. */
    static Object outcome(Call call, CampBook book) {
        try {
            Object answer = call.on(book);
            return answer instanceof Integer number ? Long.valueOf(number) : answer;
        } catch (RuntimeException e) {
            return e.getClass();
        }
    }

    static void answers(String what, long due, Ahead ahead, Call call) {
        Check.same(what, outcome(call, made(ahead)), due);
    }

    static void answers(String what, boolean due, Ahead ahead, Call call) {
        Check.same(what, outcome(call, made(ahead)), due);
    }

    /** The call throws this exception, and the book is as it is without the call. */
    static void refuses(String what, Class<?> due, Ahead ahead, Call call) {
        Check.same(what, outcome(call, made(ahead)), due);
        changesNothing(what, ahead, call);
    }

    static void changesNothing(String what, Ahead ahead, Call call) {
        for (Call look : LOOKS) {
            CampBook book = made(ahead);
            outcome(call, book);
            Check.same(what + " changes nothing", look.on(book), look.on(made(ahead)));
        }
    }

    /** The values from the least to the greatest are taken, and those on either side are refused. */
    static void range(String what, Class<?> due, int least, int greatest, Ahead ahead, RangeCall call) {
        for (int value : new int[] {least, greatest}) {
            Object outcome = outcome(book -> call.on(book, value), made(ahead));
            Check.same(what + " " + value + " is taken", outcome instanceof Class, false);
        }
        refusesOutside(what, due, least, greatest, ahead, call);
    }

    /** For a range that may be empty, or whose values are refused for another reason. */
    static void refusesOutside(
            String what, Class<?> due, int least, int greatest, Ahead ahead, RangeCall call) {
        int[] values = {least - 1, greatest + 1, Integer.MIN_VALUE, Integer.MAX_VALUE};
        for (int value : values) {
            refuses(what + " " + value, due, ahead, book -> call.on(book, value));
        }
    }

    private static List<Object> facts(CampBook book) {
        List<Object> facts = new ArrayList<>();
        facts.add(book.day());
        facts.add(book.meanAge());
        facts.add(book.digest());
        for (int what = 0; what < 7; what++) {
            facts.add(book.count(what));
        }
        for (int what = 0; what < 3; what++) {
            facts.add(book.table(what));
        }
        for (int scout = 0; scout < book.count(1); scout++) {
            for (int what = 0; what < 7; what++) {
                facts.add(book.scout(scout, what));
            }
        }
        for (int food = 0; food < book.count(4); food++) {
            facts.add(book.store(food));
        }
        for (int meal = 0; meal < book.count(5); meal++) {
            facts.add(book.eaters(meal));
        }
        return facts;
    }

    private static List<Object> distances(CampBook book) {
        List<Object> distances = new ArrayList<>();
        int badges = book.count(6);
        int scouts = book.count(1);
        for (int badge = 0; badge < badges; badge++) {
            for (int scout = 0; scout < scouts; scout++) {
                distances.add(book.away(scout, badge));
            }
        }
        return distances;
    }

    private static List<Object> allDuties(CampBook book) {
        List<Object> duties = new ArrayList<>();
        for (int day = 0; day <= 60; day++) {
            for (int kind = 0; kind < 5; kind++) {
                duties.add(book.duty(day, kind));
            }
        }
        return duties;
    }

    /** What each meal needs of each food, of those too that are yet to come. */
    private static List<Object> allNeeds(CampBook book) {
        addUpTo(12, book.count(4), () -> book.addFood(0));
        addUpTo(10, book.count(5), () -> book.addMeal());
        List<Object> needs = new ArrayList<>();
        for (int meal = 0; meal < 10; meal++) {
            for (int food = 0; food < 12; food++) {
                needs.add(book.need(meal, food, 0));
            }
        }
        return needs;
    }

    /** What each badge wants in each activity, of those too that are yet to come. */
    private static List<Object> allWants(CampBook book) {
        addUpTo(8, book.count(6), () -> book.addBadge(6));
        List<Object> wants = new ArrayList<>();
        for (int badge = 0; badge < 8; badge++) {
            for (int activity = 0; activity < 10; activity++) {
                wants.add(book.want(badge, activity, 0));
            }
        }
        return wants;
    }

    /** The points of all patrols, the sets of all tents, and what no new scout has, of those to come too. */
    private static List<Object> newcomers(CampBook book) {
        addUpTo(6, book.count(0), () -> book.addPatrol());
        addUpTo(30, book.count(1), () -> book.addScout(0, 10, 0));
        addUpTo(10, book.count(2), () -> book.addTent(8));
        List<Object> newcomers = new ArrayList<>();
        for (int patrol = 0; patrol < 6; patrol++) {
            newcomers.add(book.points(patrol));
        }
        for (int tent = 0; tent < 10; tent++) {
            newcomers.add(book.inTent(tent));
        }
        for (int scout = 0; scout < 30; scout++) {
            for (int what = 3; what < 7; what++) {
                newcomers.add(book.scout(scout, what));
            }
        }
        newcomers.add(book.findTents());
        return newcomers;
    }

    private static void addUpTo(int most, int there, Runnable add) {
        for (int i = there; i < most; i++) {
            add.run();
        }
    }
}
