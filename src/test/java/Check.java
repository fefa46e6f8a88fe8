import java.util.ArrayList;
import java.util.List;

/** Counts wrong answers, and ends the test with exit code 1 if there was one. */
final class Check {
    static final Class<?> STATE = IllegalStateException.class;
    static final Class<?> ARGUMENT = IllegalArgumentException.class;
    static final Class<?> INDEX = IndexOutOfBoundsException.class;

    /** A call of the face, whose answer is boxed. */
    interface Call {
        Object answer();
    }

    private static int wrong = 0;

    private Check() {
    }

    static void same(String what, Object got, Object want) {
        if (!got.equals(want)) {
            wrong++;
            System.out.println(what + ": got " + got + ", due is " + want);
        }
    }

    static void numbers(String what, long got, long want) {
        same(what, got, want);
    }

    /** The call must throw exactly this class, no class below it, and leave the book as it was. */
    static void refuses(CampBook book, Class<?> due, String what, Call call) {
        List<Object> before = stateOf(book);
        same(what, outcome(call), due);
        same(what + " leaves the book as it was", stateOf(book), before);
    }

    static Object outcome(Call call) {
        try {
            return call.answer();
        } catch (RuntimeException e) {
            return e.getClass();
        }
    }

    /** All that the asking calls tell of a book. */
    static List<Object> stateOf(CampBook book) {
        List<Object> state = new ArrayList<>();
        state.add(book.day());
        state.add(book.meanAge());
        state.add(book.digest());
        for (int what = 0; what < 7; what++) {
            state.add(book.count(what));
        }
        for (int what = 0; what < 3; what++) {
            state.add(book.table(what));
        }
        addDuties(book, state);
        addKitchen(book, state);
        for (int tent = 0; tent < book.count(2); tent++) {
            state.add(book.inTent(tent));
        }
        for (int scout = 0; scout < book.count(1); scout++) {
            for (int what = 0; what < 7; what++) {
                state.add(book.scout(scout, what));
            }
            for (int badge = 0; badge < book.count(6); badge++) {
                state.add(book.away(scout, badge));
            }
        }
        return state;
    }

    private static void addDuties(CampBook book, List<Object> state) {
        for (int day = 0; day <= 60; day++) {
            for (int kind = 0; kind < 5; kind++) {
                state.add(book.duty(day, kind));
            }
        }
        for (int patrol = 0; patrol < book.count(0); patrol++) {
            state.add(book.points(patrol));
        }
    }

    private static void addKitchen(CampBook book, List<Object> state) {
        for (int food = 0; food < book.count(4); food++) {
            state.add(book.store(food));
        }
        for (int meal = 0; meal < book.count(5); meal++) {
            state.add(book.eaters(meal));
            for (int food = 0; food < book.count(4); food++) {
                state.add(book.lacks(meal, food, 100));
            }
        }
    }

    static void end() {
        System.out.println(wrong == 0 ? "all answers are as due" : wrong + " answers are not as due");
        if (wrong != 0) {
            System.exit(1);
        }
    }
}
