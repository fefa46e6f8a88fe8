import java.util.function.Supplier;

/** Long runs of calls, drawn by a fixed rule, with each answer and exception compared with the model's. */
public final class RandomRunsTest {
    private static final int RUNS = 200;
    private static final int CALLS = 512;
    private static final int CALL_KINDS = 32;
    private static final int DIGEST = 31;
    private static final int[] ODD = {
        -2, -1, 0, 1, 5, 6, 7, 8, 9, 10, 12, 17, 18, 24, 25, 30, 50, 51, 60, 61, 100, 101, 255, 256,
        3000, 3001, 10000, 10001, Integer.MAX_VALUE, Integer.MIN_VALUE,
    };
    private static final int[] COUNTS = new int[CALL_KINDS];
    private static final int[] THROWN = new int[CALL_KINDS];

    private static long seed;

    public static void main(String[] args) {
        for (int run = 0; run < RUNS; run++) {
            seed = run * 7919L + 1;
            oneRun(run);
        }
        for (int call = 0; call < CALL_KINDS; call++) {
            Check.same("call " + call + " answered often", COUNTS[call] - THROWN[call] > 100, true);
        }
        Check.end();
    }

    private static int below(int bound) {
        seed = seed * 6364136223846793005L + 1442695040888963407L;
        return (int) ((seed >>> 33) % bound);
    }

    /** Mostly from the range, now and then an odd number. */
    private static int draw(int least, int greatest) {
        if (greatest < least || below(40) == 0) {
            return ODD[below(ODD.length)];
        }
        return least + below(greatest - least + 1);
    }

    /** Mostly the number of a thing that is there, if there is one. */
    private static int numberOf(Model model, int what) {
        return draw(0, model.count(what) - 1);
    }

    private static void oneRun(int run) {
        CampBook book = new CampBook();
        Model model = new Model();
        // Some runs are young camps with few ages, others have them all.
        int youngest = 6 + below(9);
        int oldest = Math.min(17, youngest + 1 + below(11));
        for (int i = 0; i < CALLS; i++) {
            int call = i % 8 == 7 ? DIGEST : i < 60 ? early() : below(CALL_KINDS);
            int[] x = arguments(model, call, youngest, oldest);
            long set = setOfScouts(model);
            Object due = outcome(() -> ofModel(model, call, x, set));
            Object got = outcome(() -> ofBook(book, call, x, set));
            COUNTS[call]++;
            THROWN[call] += due instanceof Class ? 1 : 0;
            Check.same("run " + run + " call " + i + " of " + call + "(" + x[0] + "," + x[1] + "," + x[2] + ")",
                    got, due);
        }
    }

    private static Object outcome(Supplier<Object> call) {
        try {
            return call.get();
        } catch (RuntimeException e) {
            return e.getClass();
        }
    }

    private static int early() {
        int[] adding = {0, 1, 1, 1, 1, 1, 3, 3, 12, 16, 17, 17, 22, 23};
        return adding[below(adding.length)];
    }

    private static long setOfScouts(Model model) {
        int scouts = model.count(1);
        long set = below(8) == 0 ? 0 : 1L << below(scouts + 1);
        for (int i = below(6); i > 0 && scouts > 0; i--) {
            set |= 1L << below(scouts);
        }
        return below(40) == 0 ? set | 1L << below(64) : set;
    }

    private static int[] arguments(Model model, int call, int youngest, int oldest) {
        switch (call) {
            case 1: return three(numberOf(model, 0), draw(youngest, oldest), draw(0, 255));
            case 2: return three(numberOf(model, 1), draw(0, 6), 0);
            case 3: return three(draw(1, 8), 0, 0);
            case 4: return three(numberOf(model, 1), below(3) == 0 ? -1 : numberOf(model, 2), 0);
            case 5: return three(numberOf(model, 2), 0, 0);
            case 7: return three(draw(0, 6), 0, 0);
            case 8: return three(model.day() + draw(0, 3), draw(0, 4), below(5) == 0 ? -1 : numberOf(model, 0));
            case 9: return three(draw(0, 60), draw(0, 4), 0);
            case 10: return three(numberOf(model, 0), 0, 0);
            case 12: return three(below(3) == 0 ? draw(0, 300) : draw(0, 10000), 0, 0);
            case 13: return three(numberOf(model, 4), below(3) == 0 ? draw(1, 10000) : draw(1, 300), 0);
            case 14: return three(numberOf(model, 4), 0, 0);
            case 15: return three(numberOf(model, 1), numberOf(model, 4), below(3));
            case 17: return three(numberOf(model, 5), numberOf(model, 4), below(3) == 0 ? 0 : draw(0, 50));
            case 18:
            case 20: return three(numberOf(model, 5), 0, 0);
            case 19: return three(numberOf(model, 5), numberOf(model, 4), draw(1, 100));
            case 21: return three(draw(0, 2), 0, 0);
            case 22: return three(draw(6, oldest), 0, 0);
            case 23: return three(numberOf(model, 6), draw(0, 9), below(3) == 0 ? draw(0, 100) : draw(0, 10));
            case 24: return three(numberOf(model, 0), draw(0, 9), draw(1, 24));
            case 25:
            case 26: return three(numberOf(model, 1), numberOf(model, 6), 0);
            case 27: return three(draw(1, 50), draw(0, 3000), 0);
            default: return three(0, 0, 0);
        }
    }

    private static int[] three(int a, int b, int c) {
        return new int[] {a, b, c};
    }

    private static Object ofBook(CampBook book, int call, int[] x, long set) {
        switch (call) {
            case 0: return book.addPatrol();
            case 1: return book.addScout(x[0], x[1], x[2]);
            case 2: return book.scout(x[0], x[1]);
            case 3: return book.addTent(x[0]);
            case 4: return book.sleep(x[0], x[1]);
            case 5: return book.inTent(x[0]);
            case 6: return book.findTents();
            case 7: return book.count(x[0]);
            case 8: return book.giveDuty(x[0], x[1], x[2]);
            case 9: return book.duty(x[0], x[1]);
            case 10: return book.points(x[0]);
            case 11: return book.findDuties();
            case 12: return book.addFood(x[0]);
            case 13: return book.buy(x[0], x[1]);
            case 14: return book.store(x[0]);
            case 15: return book.diet(x[0], x[1], x[2] > 0);
            case 16: return book.addMeal();
            case 17: return book.need(x[0], x[1], x[2]);
            case 18: return book.eaters(x[0]);
            case 19: return book.lacks(x[0], x[1], x[2]);
            case 20: return book.eat(x[0]);
            case 21: return book.table(x[0]);
            case 22: return book.addBadge(x[0]);
            case 23: return book.want(x[0], x[1], x[2]);
            case 24: return book.practise(x[0], x[1], x[2]);
            case 25: return book.away(x[0], x[1]);
            case 26: return book.earn(x[0], x[1]);
            case 27: return book.hike(set, x[0], x[1]);
            case 28: return book.end();
            case 29: return book.day();
            case 30: return book.meanAge();
            default: return book.digest();
        }
    }

    private static Object ofModel(Model model, int call, int[] x, long set) {
        switch (call) {
            case 0: return model.addPatrol();
            case 1: return model.addScout(x[0], x[1], x[2]);
            case 2: return model.scout(x[0], x[1]);
            case 3: return model.addTent(x[0]);
            case 4: return model.sleep(x[0], x[1]);
            case 5: return model.inTent(x[0]);
            case 6: return model.findTents();
            case 7: return model.count(x[0]);
            case 8: return model.giveDuty(x[0], x[1], x[2]);
            case 9: return model.duty(x[0], x[1]);
            case 10: return model.points(x[0]);
            case 11: return model.findDuties();
            case 12: return model.addFood(x[0]);
            case 13: return model.buy(x[0], x[1]);
            case 14: return model.store(x[0]);
            case 15: return model.diet(x[0], x[1], x[2] > 0);
            case 16: return model.addMeal();
            case 17: return model.need(x[0], x[1], x[2]);
            case 18: return model.eaters(x[0]);
            case 19: return model.lacks(x[0], x[1], x[2]);
            case 20: return model.eat(x[0]);
            case 21: return model.table(x[0]);
            case 22: return model.addBadge(x[0]);
            case 23: return model.want(x[0], x[1], x[2]);
            case 24: return model.practise(x[0], x[1], x[2]);
            case 25: return model.away(x[0], x[1]);
            case 26: return model.earn(x[0], x[1]);
            case 27: return model.hike(set, x[0], x[1]);
            case 28: return model.end();
            case 29: return model.day();
            case 30: return model.meanAge();
            default: return model.digest();
        }
    }
}
