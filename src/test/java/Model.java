import java.util.ArrayList;
import java.util.HashMap;
import java.util.HashSet;
import java.util.List;
import java.util.Map;
import java.util.Set;

/** The document once more, by lists and maps and without thrift, for RandomRunsTest to compare with. */
final class Model {
    static final class Scout {
        int number;
        int patrol;
        int age;
        int skills;
        Integer tent = null;
        final Set<Integer> disliked = new HashSet<>();
        final Set<Integer> badges = new HashSet<>();
        final Map<Integer, Integer> hours = new HashMap<>();
        boolean ate = false;

        boolean hasSkill(int skill) {
            return (skills >> skill & 1) == 1;
        }

        boolean canEat(Map<Integer, Integer> meal) {
            return meal.keySet().stream().noneMatch(disliked::contains);
        }
    }

    record Slot(int day, int kind) {
    }

    record Badge(int age, Map<Integer, Integer> hours) {
    }

    private int patrols = 0;
    private final List<Scout> scouts = new ArrayList<>();
    private final List<Integer> tents = new ArrayList<>();
    private final Map<Slot, Integer> duties = new HashMap<>();
    private final List<Integer> stores = new ArrayList<>();
    private final List<Map<Integer, Integer>> meals = new ArrayList<>();
    private final List<Badge> badges = new ArrayList<>();
    private int mealsToday = 0;
    private int day = 0;

    private static void index(boolean isRight) {
        if (!isRight) {
            throw new IndexOutOfBoundsException();
        }
    }

    private static void argument(boolean isRight) {
        if (!isRight) {
            throw new IllegalArgumentException();
        }
    }

    private static void state(boolean isRight) {
        if (!isRight) {
            throw new IllegalStateException();
        }
    }

    private static boolean in(int x, int from, int to) {
        return from <= x && x <= to;
    }

    private void scoutIs(int scout) {
        index(in(scout, 0, scouts.size() - 1));
    }

    private void patrolIs(int patrol) {
        index(in(patrol, 0, patrols - 1));
    }

    private void foodIs(int food) {
        index(in(food, 0, stores.size() - 1));
    }

    private void mealIs(int meal) {
        index(in(meal, 0, meals.size() - 1));
    }

    private void badgeIs(int badge) {
        index(in(badge, 0, badges.size() - 1));
    }

    private static long sum(Set<Integer> numbers) {
        return numbers.stream().mapToLong(k -> 1L << k).sum();
    }

    int addPatrol() {
        state(patrols < 6);
        return patrols++;
    }

    int addScout(int patrol, int age, int skills) {
        patrolIs(patrol);
        argument(in(age, 6, 17) && in(skills, 0, 255));
        state(scouts.size() < 30);
        Scout scout = new Scout();
        scout.number = scouts.size();
        scout.patrol = patrol;
        scout.age = age;
        scout.skills = skills;
        scouts.add(scout);
        return scout.number;
    }

    int scout(int number, int what) {
        scoutIs(number);
        index(in(what, 0, 6));
        Scout scout = scouts.get(number);
        int[] facts = {
            scout.patrol,
            scout.age,
            scout.skills,
            (int) sum(scout.disliked),
            scout.tent == null ? -1 : scout.tent,
            (int) sum(scout.badges),
            scout.hours.values().stream().mapToInt(h -> h).sum(),
        };
        return facts[what];
    }

    int addTent(int places) {
        argument(in(places, 1, 8));
        state(tents.size() < 10);
        tents.add(places);
        return tents.size() - 1;
    }

    private List<Scout> sleepersOf(int tent) {
        return scouts.stream().filter(s -> s.tent != null && s.tent == tent).toList();
    }

    private boolean canSleep(Scout scout, int tent) {
        List<Scout> all = new ArrayList<>(sleepersOf(tent));
        all.add(scout);
        int least = all.stream().mapToInt(s -> s.age).min().getAsInt();
        int greatest = all.stream().mapToInt(s -> s.age).max().getAsInt();
        return all.size() <= tents.get(tent) && greatest - least <= 3;
    }

    int sleep(int number, int tent) {
        scoutIs(number);
        index(in(tent, -1, tents.size() - 1));
        Scout scout = scouts.get(number);
        int before = scout.tent == null ? -1 : scout.tent;
        state(before != tent);
        state(tent == -1 || canSleep(scout, tent));
        scout.tent = tent == -1 ? null : tent;
        return before;
    }

    long inTent(int tent) {
        index(in(tent, 0, tents.size() - 1));
        return sleepersOf(tent).stream().mapToLong(s -> 1L << s.number).sum();
    }

    int findTents() {
        List<Scout> order = new ArrayList<>(scouts.stream().filter(s -> s.tent == null).toList());
        order.sort((a, b) -> a.age != b.age ? b.age - a.age : a.number - b.number);
        for (Scout scout : order) {
            List<Integer> choice = new ArrayList<>();
            for (int tent = 0; tent < tents.size(); tent++) {
                if (canSleep(scout, tent)) {
                    choice.add(tent);
                }
            }
            choice.sort((a, b) -> {
                long matesA = sleepersOf(a).stream().filter(s -> s.patrol == scout.patrol).count();
                long matesB = sleepersOf(b).stream().filter(s -> s.patrol == scout.patrol).count();
                int all = sleepersOf(b).size() - sleepersOf(a).size();
                return matesA != matesB ? Long.compare(matesB, matesA) : all != 0 ? all : a - b;
            });
            if (!choice.isEmpty()) {
                scout.tent = choice.get(0);
            }
        }
        return tentless();
    }

    private int tentless() {
        return (int) scouts.stream().filter(s -> s.tent == null).count();
    }

    int count(int what) {
        index(in(what, 0, 6));
        int[] counts = {
            patrols, scouts.size(), tents.size(), tentless(), stores.size(), meals.size(), badges.size(),
        };
        return counts[what];
    }

    private int holder(int onDay, int kind) {
        return duties.getOrDefault(new Slot(onDay, kind), -1);
    }

    private boolean canGive(int onDay, int kind, int patrol) {
        List<Scout> own = scouts.stream().filter(s -> s.patrol == patrol).toList();
        boolean isFree = true;
        for (int other = 0; other < 5; other++) {
            isFree &= other == kind || holder(onDay, other) != patrol;
        }
        return !own.isEmpty()
                && isFree
                && (onDay == 0 || holder(onDay - 1, kind) != patrol)
                && (onDay == 60 || holder(onDay + 1, kind) != patrol)
                && (kind != 4 || own.stream().anyMatch(s -> s.age >= 12));
    }

    int giveDuty(int onDay, int kind, int patrol) {
        index(in(kind, 0, 4) && in(patrol, -1, patrols - 1));
        argument(in(onDay, day, 60));
        state(patrol == -1 || canGive(onDay, kind, patrol));
        int before = holder(onDay, kind);
        duties.put(new Slot(onDay, kind), patrol);
        return before;
    }

    int duty(int onDay, int kind) {
        index(in(kind, 0, 4) && in(onDay, 0, 60));
        return holder(onDay, kind);
    }

    int points(int patrol) {
        patrolIs(patrol);
        int[] worth = {2, 3, 4, 2, 5};
        int sum = 0;
        for (Map.Entry<Slot, Integer> entry : duties.entrySet()) {
            sum += entry.getValue() == patrol ? worth[entry.getKey().kind()] : 0;
        }
        return sum;
    }

    int findDuties() {
        for (int kind : List.of(4, 2, 1, 0, 3)) {
            if (holder(day, kind) == -1) {
                List<Integer> choice = new ArrayList<>();
                for (int patrol = 0; patrol < patrols; patrol++) {
                    if (canGive(day, kind, patrol)) {
                        choice.add(patrol);
                    }
                }
                choice.sort((a, b) -> points(a) != points(b) ? points(a) - points(b) : a - b);
                duties.put(new Slot(day, kind), choice.isEmpty() ? -1 : choice.get(0));
            }
        }
        int open = 0;
        for (int kind = 0; kind < 5; kind++) {
            open += holder(day, kind) == -1 ? 1 : 0;
        }
        return open;
    }

    int addFood(int store) {
        argument(in(store, 0, 10000));
        state(stores.size() < 12);
        stores.add(store);
        return stores.size() - 1;
    }

    int buy(int food, int units) {
        foodIs(food);
        argument(in(units, 1, 10000));
        state(stores.get(food) + units <= 10000);
        stores.set(food, stores.get(food) + units);
        return stores.get(food);
    }

    int store(int food) {
        foodIs(food);
        return stores.get(food);
    }

    boolean diet(int scout, int food, boolean isEaten) {
        scoutIs(scout);
        foodIs(food);
        Set<Integer> disliked = scouts.get(scout).disliked;
        return isEaten ? !disliked.remove(food) : disliked.add(food);
    }

    int addMeal() {
        state(meals.size() < 10);
        meals.add(new HashMap<>());
        return meals.size() - 1;
    }

    int need(int meal, int food, int units) {
        mealIs(meal);
        foodIs(food);
        argument(in(units, 0, 50));
        Integer before = units == 0 ? meals.get(meal).remove(food) : meals.get(meal).put(food, units);
        return before == null ? 0 : before;
    }

    private List<Scout> eatersOf(int meal) {
        return scouts.stream().filter(s -> s.canEat(meals.get(meal))).toList();
    }

    long eaters(int meal) {
        mealIs(meal);
        return eatersOf(meal).stream().mapToLong(s -> 1L << s.number).sum();
    }

    int lacks(int meal, int food, int times) {
        mealIs(meal);
        foodIs(food);
        argument(in(times, 1, 100));
        int units = meals.get(meal).getOrDefault(food, 0) * eatersOf(meal).size() * times;
        return units > stores.get(food) ? units - stores.get(food) : 0;
    }

    private boolean canBeEaten(int meal) {
        int eating = eatersOf(meal).size();
        Map<Integer, Integer> foods = meals.get(meal);
        return mealsToday < 3
                && !foods.isEmpty()
                && eating > 0
                && foods.keySet().stream().allMatch(f -> foods.get(f) * eating <= stores.get(f));
    }

    int eat(int meal) {
        mealIs(meal);
        state(canBeEaten(meal));
        List<Scout> eating = eatersOf(meal);
        meals.get(meal).forEach((food, units) -> stores.set(food, stores.get(food) - units * eating.size()));
        eating.forEach(s -> s.ate = true);
        mealsToday++;
        return eating.size();
    }

    int table(int what) {
        index(in(what, 0, 2));
        if (what == 0) {
            return (int) scouts.stream().filter(s -> !s.ate).count();
        }
        if (what == 1) {
            return mealsToday;
        }
        int best = -1;
        for (int meal = meals.size() - 1; meal >= 0; meal--) {
            if (canBeEaten(meal) && (best == -1 || hungryEaters(meal) >= hungryEaters(best))) {
                best = meal;
            }
        }
        return best;
    }

    private long hungryEaters(int meal) {
        return eatersOf(meal).stream().filter(s -> !s.ate).count();
    }

    int addBadge(int age) {
        argument(in(age, 6, 17));
        state(badges.size() < 8);
        badges.add(new Badge(age, new HashMap<>()));
        return badges.size() - 1;
    }

    int want(int badge, int activity, int hours) {
        badgeIs(badge);
        index(in(activity, 0, 9));
        argument(in(hours, 0, 100));
        Integer before = badges.get(badge).hours().put(activity, hours);
        return before == null ? 0 : before;
    }

    int practise(int patrol, int activity, int hours) {
        patrolIs(patrol);
        index(in(activity, 0, 9));
        argument(in(hours, 1, 24));
        List<Scout> own = scouts.stream().filter(s -> s.patrol == patrol).toList();
        own.forEach(s -> s.hours.merge(activity, hours, Integer::sum));
        return own.size();
    }

    int away(int number, int badge) {
        scoutIs(number);
        badgeIs(badge);
        Scout scout = scouts.get(number);
        Badge wanted = badges.get(badge);
        int lacking = 0;
        for (int activity : wanted.hours().keySet()) {
            int more = wanted.hours().get(activity) - scout.hours.getOrDefault(activity, 0);
            lacking += more > 0 ? more : 0;
        }
        return scout.age < wanted.age() ? -1 : scout.badges.contains(badge) ? -2 : lacking;
    }

    int earn(int number, int badge) {
        state(away(number, badge) == 0);
        scouts.get(number).badges.add(badge);
        return scouts.get(number).badges.size();
    }

    int hike(long set, int length, int climb) {
        List<Scout> going = scouts.stream().filter(s -> (set >> s.number & 1) == 1).toList();
        argument(set != 0 && going.size() == Long.bitCount(set) && in(length, 1, 50) && in(climb, 0, 3000));
        state(going.stream().anyMatch(s -> s.age >= 14) && going.stream().anyMatch(s -> s.hasSkill(1)));
        int slowest = 0;
        for (Scout scout : going) {
            int younger = scout.age < 14 ? 14 - scout.age : 0;
            slowest = Math.max(slowest, 12 + younger - (scout.hasSkill(0) ? 2 : 0));
        }
        int minutes = slowest * length;
        for (int left = climb; left >= 100; left -= 100) {
            minutes += 10;
        }
        int rests = 0;
        for (int left = minutes; left >= 60; left -= 60) {
            rests += 5;
        }
        return minutes + rests;
    }

    int end() {
        state(day < 60);
        scouts.forEach(s -> s.ate = false);
        mealsToday = 0;
        return ++day;
    }

    int day() {
        return day;
    }

    double meanAge() {
        int sum = scouts.stream().mapToInt(s -> s.age).sum();
        return scouts.isEmpty() ? 0 : sum / (double) scouts.size();
    }

    long digest() {
        List<Long> numbers = new ArrayList<>();
        numbers.add((long) day);
        for (int what = 0; what < 7; what++) {
            numbers.add((long) count(what));
        }
        for (int patrol = 0; patrol < patrols; patrol++) {
            numbers.add((long) points(patrol));
        }
        for (int number = 0; number < scouts.size(); number++) {
            for (int what = 0; what < 7; what++) {
                numbers.add((long) scout(number, what));
            }
        }
        for (int tent = 0; tent < tents.size(); tent++) {
            numbers.add(inTent(tent));
        }
        for (int kind = 0; kind < 5; kind++) {
            numbers.add((long) holder(day, kind));
        }
        stores.forEach(store -> numbers.add((long) store));
        for (int meal = 0; meal < meals.size(); meal++) {
            numbers.add(eaters(meal));
        }
        numbers.add((long) table(0));
        numbers.add((long) table(1));
        long d = 353;
        for (long x : numbers) {
            d = d * 31 + x;
        }
        return d;
    }
}
