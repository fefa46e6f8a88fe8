import java.util.Arrays;

/** The book of a scout camp. */
public final class CampBook {
    private static final int NONE = -1;
    private static final int LAST_DAY = 60;
    private static final int YOUNGEST = 6;
    private static final int OLDEST = 17;
    private static final int ALL_SKILLS = 255;
    private static final int MOST_PATROLS = 6;
    private static final int MOST_SCOUTS = 30;
    private static final int MOST_TENTS = 10;
    private static final int MOST_PLACES = 8;
    private static final int MOST_FOODS = 12;
    private static final int GREATEST_STORE = 10000;
    private static final int MOST_MEALS = 10;
    private static final int GREATEST_NEED = 50;
    private static final int GREATEST_TIMES = 100;
    private static final int MOST_BADGES = 8;
    private static final int ACTIVITIES = 10;
    private static final int GREATEST_WANT = 100;
    private static final int GREATEST_PRACTICE = 24;
    private static final int GREATEST_LENGTH = 50;
    private static final int GREATEST_CLIMB = 3000;
    private static final int LEADER_AGE = 14;
    private static final int LEADER_SKILL = 1;
    private static final int COUNTS = 7;
    private static final int SCOUT_FACTS = 7;
    private static final int TABLE_FACTS = 3;
    private static final int DIGEST_START = 353;

    private final People people;
    private final Tents tents;
    private final Duties duties;
    private final Kitchen kitchen;
    private final Badges badges;
    private int today;

    public CampBook() {
        people = new People();
        tents = new Tents();
        duties = new Duties();
        kitchen = new Kitchen();
        badges = new Badges();
        today = 0;
    }

    // ---- patrols, scouts and tents

    public int addPatrol() throws IllegalStateException {
        if (people.patrols >= MOST_PATROLS) {
            throw new IllegalStateException("there are 6 patrols");
        }
        people.patrols++;
        return people.patrols - 1;
    }

    public int addScout(int patrol, int age, int skills)
            throws IndexOutOfBoundsException, IllegalArgumentException, IllegalStateException {
        checkNumber(patrol, people.patrols);
        checkArgument(age, YOUNGEST, OLDEST);
        checkArgument(skills, 0, ALL_SKILLS);
        if (people.scouts >= MOST_SCOUTS) {
            throw new IllegalStateException("there are 30 scouts");
        }
        return people.enrol(patrol, age, skills);
    }

    public int scout(int scout, int what) throws IndexOutOfBoundsException {
        checkNumber(scout, people.scouts);
        checkNumber(what, SCOUT_FACTS);
        return factOf(scout, what);
    }

    public int addTent(int places) throws IllegalArgumentException, IllegalStateException {
        checkArgument(places, 1, MOST_PLACES);
        if (tents.size >= MOST_TENTS) {
            throw new IllegalStateException("there are 10 tents");
        }
        return tents.pitch(places);
    }

    public int sleep(int scout, int tent) throws IndexOutOfBoundsException, IllegalStateException {
        checkNumber(scout, people.scouts);
        checkNumberOrNone(tent, tents.size);
        int before = tents.tentOf(scout);
        if (before == tent) {
            throw new IllegalStateException("the scout sleeps there already");
        }
        if (tent != NONE && !tents.canTake(tent, scout, people)) {
            throw new IllegalStateException("the scout cannot sleep there");
        }
        tents.leave(before, scout);
        tents.enter(tent, scout);
        return before;
    }

    public long inTent(int tent) throws IndexOutOfBoundsException {
        checkNumber(tent, tents.size);
        return tents.sleepers[tent];
    }

    public int findTents() {
        for (int age = OLDEST; age >= YOUNGEST; age--) {
            for (int scout = 0; scout < people.scouts; scout++) {
                if (people.age[scout] == age && tents.tentOf(scout) == NONE) {
                    tents.enter(tents.bestFor(scout, people), scout);
                }
            }
        }
        return scoutsWithoutTent();
    }

    public int count(int what) throws IndexOutOfBoundsException {
        checkNumber(what, COUNTS);
        return countOf(what);
    }

    // ---- duties

    public int giveDuty(int day, int kind, int patrol)
            throws IndexOutOfBoundsException, IllegalArgumentException, IllegalStateException {
        checkNumber(kind, Duties.KINDS);
        checkNumberOrNone(patrol, people.patrols);
        checkArgument(day, today, LAST_DAY);
        if (patrol != NONE && !duties.canBeGiven(day, kind, patrol, people)) {
            throw new IllegalStateException("the patrol cannot have this duty");
        }
        int before = duties.holderOn(day, kind);
        duties.assign(day, kind, patrol);
        return before;
    }

    public int duty(int day, int kind) throws IndexOutOfBoundsException {
        checkNumber(kind, Duties.KINDS);
        checkNumber(day, LAST_DAY + 1);
        return duties.holderOn(day, kind);
    }

    public int points(int patrol) throws IndexOutOfBoundsException {
        checkNumber(patrol, people.patrols);
        return duties.points[patrol];
    }

    public int findDuties() {
        for (int i = 0; i < Duties.BY_POINTS.length; i++) {
            int kind = Duties.BY_POINTS[i];
            if (duties.holderOn(today, kind) == NONE) {
                duties.assign(today, kind, duties.bestFor(today, kind, people));
            }
        }
        return duties.openOn(today);
    }

    // ---- kitchen

    public int addFood(int store) throws IllegalArgumentException, IllegalStateException {
        checkArgument(store, 0, GREATEST_STORE);
        if (kitchen.foods >= MOST_FOODS) {
            throw new IllegalStateException("there are 12 foods");
        }
        kitchen.stores[kitchen.foods] = store;
        kitchen.foods++;
        return kitchen.foods - 1;
    }

    public int buy(int food, int units)
            throws IndexOutOfBoundsException, IllegalArgumentException, IllegalStateException {
        checkNumber(food, kitchen.foods);
        checkArgument(units, 1, GREATEST_STORE);
        int then = kitchen.stores[food] + units;
        if (then > GREATEST_STORE) {
            throw new IllegalStateException("the store would be greater than 10000");
        }
        kitchen.stores[food] = then;
        return then;
    }

    public int store(int food) throws IndexOutOfBoundsException {
        checkNumber(food, kitchen.foods);
        return kitchen.stores[food];
    }

    public boolean diet(int scout, int food, boolean isEaten) throws IndexOutOfBoundsException {
        checkNumber(scout, people.scouts);
        checkNumber(food, kitchen.foods);
        int before = people.refused[scout];
        int bit = 1 << food;
        people.refused[scout] = isEaten ? before & ~bit : before | bit;
        return (before & bit) == 0;
    }

    public int addMeal() throws IllegalStateException {
        if (kitchen.meals >= MOST_MEALS) {
            throw new IllegalStateException("there are 10 meals");
        }
        kitchen.meals++;
        return kitchen.meals - 1;
    }

    public int need(int meal, int food, int units)
            throws IndexOutOfBoundsException, IllegalArgumentException {
        checkNumber(meal, kitchen.meals);
        checkNumber(food, kitchen.foods);
        checkArgument(units, 0, GREATEST_NEED);
        int before = kitchen.needOf(meal, food);
        kitchen.needs[meal * MOST_FOODS + food] = units;
        return before;
    }

    public long eaters(int meal) throws IndexOutOfBoundsException {
        checkNumber(meal, kitchen.meals);
        return kitchen.eatersOf(meal, people);
    }

    public int lacks(int meal, int food, int times)
            throws IndexOutOfBoundsException, IllegalArgumentException {
        checkNumber(meal, kitchen.meals);
        checkNumber(food, kitchen.foods);
        checkArgument(times, 1, GREATEST_TIMES);
        int portions = Long.bitCount(kitchen.eatersOf(meal, people)) * times;
        return Math.max(0, kitchen.needOf(meal, food) * portions - kitchen.stores[food]);
    }

    public int eat(int meal) throws IndexOutOfBoundsException, IllegalStateException {
        checkNumber(meal, kitchen.meals);
        if (!kitchen.canBeEaten(meal, people)) {
            throw new IllegalStateException("the meal cannot be eaten now");
        }
        return kitchen.serve(meal, people);
    }

    public int table(int what) throws IndexOutOfBoundsException {
        checkNumber(what, TABLE_FACTS);
        switch (what) {
            case 0:
                return hungryScouts();
            case 1:
                return kitchen.mealsToday;
            default:
                return kitchen.bestMeal(people);
        }
    }

    // ---- badges and hikes

    public int addBadge(int age) throws IllegalArgumentException, IllegalStateException {
        checkArgument(age, YOUNGEST, OLDEST);
        if (badges.size >= MOST_BADGES) {
            throw new IllegalStateException("there are 8 badges");
        }
        badges.leastAge[badges.size] = age;
        badges.size++;
        return badges.size - 1;
    }

    public int want(int badge, int activity, int hours)
            throws IndexOutOfBoundsException, IllegalArgumentException {
        checkNumber(badge, badges.size);
        checkNumber(activity, ACTIVITIES);
        checkArgument(hours, 0, GREATEST_WANT);
        int place = badge * ACTIVITIES + activity;
        int before = badges.wants[place];
        badges.wants[place] = hours;
        return before;
    }

    public int practise(int patrol, int activity, int hours)
            throws IndexOutOfBoundsException, IllegalArgumentException {
        checkNumber(patrol, people.patrols);
        checkNumber(activity, ACTIVITIES);
        checkArgument(hours, 1, GREATEST_PRACTICE);
        return people.train(patrol, activity, hours);
    }

    public int away(int scout, int badge) throws IndexOutOfBoundsException {
        checkNumber(scout, people.scouts);
        checkNumber(badge, badges.size);
        return badges.distance(scout, badge, people);
    }

    public int earn(int scout, int badge) throws IndexOutOfBoundsException, IllegalStateException {
        checkNumber(scout, people.scouts);
        checkNumber(badge, badges.size);
        if (badges.distance(scout, badge, people) != 0) {
            throw new IllegalStateException("the scout cannot have this badge now");
        }
        people.badges[scout] |= 1 << badge;
        return Integer.bitCount(people.badges[scout]);
    }

    public int hike(long scouts, int length, int climb)
            throws IllegalArgumentException, IllegalStateException {
        if (scouts == 0 || (scouts & ~people.everyone()) != 0) {
            throw new IllegalArgumentException("the set is empty or has a scout that is not there");
        }
        checkArgument(length, 1, GREATEST_LENGTH);
        checkArgument(climb, 0, GREATEST_CLIMB);
        if ((scouts & people.agedAtLeast(LEADER_AGE)) == 0
                || (scouts & people.skilledIn(LEADER_SKILL)) == 0) {
            throw new IllegalStateException("nobody can lead the hike");
        }
        int walking = people.slowestPace(scouts) * length + climb / 100 * 10;
        return walking + walking / 60 * 5;
    }

    // ---- days

    public int end() throws IllegalStateException {
        if (today >= LAST_DAY) {
            throw new IllegalStateException("it is the last day");
        }
        kitchen.clearTable();
        today++;
        return today;
    }

    public int day() {
        return today;
    }

    public double meanAge() {
        if (people.scouts == 0) {
            return 0.0;
        }
        int sum = 0;
        for (int scout = 0; scout < people.scouts; scout++) {
            sum += people.age[scout];
        }
        return (double) sum / people.scouts;
    }

    public long digest() {
        long d = mixed(DIGEST_START, today);
        for (int what = 0; what < COUNTS; what++) {
            d = mixed(d, countOf(what));
        }
        d = withPeople(d);
        for (int tent = 0; tent < tents.size; tent++) {
            d = mixed(d, tents.sleepers[tent]);
        }
        for (int kind = 0; kind < Duties.KINDS; kind++) {
            d = mixed(d, duties.holderOn(today, kind));
        }
        d = withKitchen(d);
        return mixed(mixed(d, hungryScouts()), kitchen.mealsToday);
    }

    // ---- helpers of the face

    private static void checkNumber(int number, int size) throws IndexOutOfBoundsException {
        if (number < 0 || number >= size) {
            throw new IndexOutOfBoundsException("there is no such number");
        }
    }

    private static void checkNumberOrNone(int number, int size) throws IndexOutOfBoundsException {
        if (number != NONE) {
            checkNumber(number, size);
        }
    }

    private static void checkArgument(int value, int least, int greatest)
            throws IllegalArgumentException {
        if (value < least || value > greatest) {
            throw new IllegalArgumentException("the argument is outside its range");
        }
    }

    private int factOf(int scout, int what) {
        switch (what) {
            case 0:
                return people.patrol[scout];
            case 1:
                return people.age[scout];
            case 2:
                return people.skills[scout];
            case 3:
                return people.refused[scout];
            case 4:
                return tents.tentOf(scout);
            case 5:
                return people.badges[scout];
            default:
                return people.allHours(scout);
        }
    }

    private int countOf(int what) {
        switch (what) {
            case 0:
                return people.patrols;
            case 1:
                return people.scouts;
            case 2:
                return tents.size;
            case 3:
                return scoutsWithoutTent();
            case 4:
                return kitchen.foods;
            case 5:
                return kitchen.meals;
            default:
                return badges.size;
        }
    }

    private int scoutsWithoutTent() {
        return people.scouts - tents.allSleepers();
    }

    private int hungryScouts() {
        return people.scouts - Long.bitCount(kitchen.ateToday);
    }

    private long withPeople(long start) {
        long d = start;
        for (int patrol = 0; patrol < people.patrols; patrol++) {
            d = mixed(d, duties.points[patrol]);
        }
        for (int scout = 0; scout < people.scouts; scout++) {
            for (int what = 0; what < SCOUT_FACTS; what++) {
                d = mixed(d, factOf(scout, what));
            }
        }
        return d;
    }

    private long withKitchen(long start) {
        long d = start;
        for (int food = 0; food < kitchen.foods; food++) {
            d = mixed(d, kitchen.stores[food]);
        }
        for (int meal = 0; meal < kitchen.meals; meal++) {
            d = mixed(d, kitchen.eatersOf(meal, people));
        }
        return d;
    }

    private static long mixed(long d, long x) {
        return d * 31 + x;
    }

    /** The patrols and their scouts; the face has tested each number that comes in here. */
    private static final class People {
        private static final int PACE = 12;
        private static final int GROWN = 14;
        private static final int WALKER_SKILL = 0;
        private static final int WALKER_GAIN = 2;

        int patrols;
        int scouts;
        final int[] patrol = new int[MOST_SCOUTS];
        final int[] age = new int[MOST_SCOUTS];
        final int[] skills = new int[MOST_SCOUTS];
        final int[] refused = new int[MOST_SCOUTS];
        final int[] badges = new int[MOST_SCOUTS];
        final int[] hours = new int[MOST_SCOUTS * ACTIVITIES];

        int enrol(int newPatrol, int newAge, int newSkills) {
            int scout = scouts;
            patrol[scout] = newPatrol;
            age[scout] = newAge;
            skills[scout] = newSkills;
            scouts++;
            return scout;
        }

        int hoursIn(int scout, int activity) {
            return hours[scout * ACTIVITIES + activity];
        }

        int allHours(int scout) {
            int sum = 0;
            for (int activity = 0; activity < ACTIVITIES; activity++) {
                sum += hoursIn(scout, activity);
            }
            return sum;
        }

        int train(int ofPatrol, int activity, int more) {
            int trained = 0;
            for (int scout = 0; scout < scouts; scout++) {
                if (patrol[scout] == ofPatrol) {
                    hours[scout * ACTIVITIES + activity] += more;
                    trained++;
                }
            }
            return trained;
        }

        long everyone() {
            return (1L << scouts) - 1;
        }

        long membersOf(int ofPatrol) {
            long set = 0;
            for (int scout = 0; scout < scouts; scout++) {
                if (patrol[scout] == ofPatrol) {
                    set |= 1L << scout;
                }
            }
            return set;
        }

        long agedAtLeast(int least) {
            long set = 0;
            for (int scout = 0; scout < scouts; scout++) {
                if (age[scout] >= least) {
                    set |= 1L << scout;
                }
            }
            return set;
        }

        long skilledIn(int skill) {
            long set = 0;
            for (int scout = 0; scout < scouts; scout++) {
                if ((skills[scout] & (1 << skill)) != 0) {
                    set |= 1L << scout;
                }
            }
            return set;
        }

        int paceOf(int scout) {
            int pace = PACE + Math.max(0, GROWN - age[scout]);
            return (skills[scout] & (1 << WALKER_SKILL)) != 0 ? pace - WALKER_GAIN : pace;
        }

        int slowestPace(long walkers) {
            int slowest = 0;
            for (int scout = 0; scout < scouts; scout++) {
                if ((walkers & (1L << scout)) != 0) {
                    slowest = Math.max(slowest, paceOf(scout));
                }
            }
            return slowest;
        }
    }

    /** The tents, each with the set of the scouts that sleep in it. */
    private static final class Tents {
        private static final int WIDEST_AGES = 3;

        int size;
        final int[] places = new int[MOST_TENTS];
        final long[] sleepers = new long[MOST_TENTS];

        int pitch(int newPlaces) {
            int tent = size;
            places[tent] = newPlaces;
            size++;
            return tent;
        }

        int tentOf(int scout) {
            for (int tent = 0; tent < size; tent++) {
                if ((sleepers[tent] & (1L << scout)) != 0) {
                    return tent;
                }
            }
            return NONE;
        }

        void leave(int tent, int scout) {
            if (tent != NONE) {
                sleepers[tent] &= ~(1L << scout);
            }
        }

        void enter(int tent, int scout) {
            if (tent != NONE) {
                sleepers[tent] |= 1L << scout;
            }
        }

        int allSleepers() {
            int sum = 0;
            for (int tent = 0; tent < size; tent++) {
                sum += Long.bitCount(sleepers[tent]);
            }
            return sum;
        }

        boolean canTake(int tent, int scout, People people) {
            return Long.bitCount(sleepers[tent]) < places[tent] && agesFit(tent, scout, people);
        }

        // Those in the tent fit each other already, so only the new one is compared with them.
        boolean agesFit(int tent, int scout, People people) {
            for (int other = 0; other < people.scouts; other++) {
                boolean isThere = (sleepers[tent] & (1L << other)) != 0;
                if (isThere && Math.abs(people.age[other] - people.age[scout]) > WIDEST_AGES) {
                    return false;
                }
            }
            return true;
        }

        int bestFor(int scout, People people) {
            long mates = people.membersOf(people.patrol[scout]);
            int best = NONE;
            int bestRank = -1;
            for (int tent = 0; tent < size; tent++) {
                int rank = rankOf(tent, mates);
                if (rank > bestRank && canTake(tent, scout, people)) {
                    best = tent;
                    bestRank = rank;
                }
            }
            return best;
        }

        // No tent holds more than 8, so one mate more outweighs every number of sleepers.
        int rankOf(int tent, long mates) {
            return Long.bitCount(sleepers[tent] & mates) * (MOST_PLACES + 1)
                    + Long.bitCount(sleepers[tent]);
        }
    }

    /** Who does which kind of duty on which day, and the points for it. */
    private static final class Duties {
        private static final int KINDS = 5;
        private static final int WATCH = 4;
        private static final int WATCH_AGE = 12;
        private static final int[] POINTS = {2, 3, 4, 2, 5};
        private static final int[] BY_POINTS = {4, 2, 1, 0, 3};

        final int[] holders = new int[(LAST_DAY + 1) * KINDS];
        final int[] points = new int[MOST_PATROLS];

        Duties() {
            Arrays.fill(holders, NONE);
        }

        // The days around the camp have no duties, so the first and last day need no care of their own.
        int holderOn(int day, int kind) {
            return day >= 0 && day <= LAST_DAY ? holders[day * KINDS + kind] : NONE;
        }

        boolean canBeGiven(int day, int kind, int patrol, People people) {
            return hasFitScout(kind, patrol, people)
                    && !doesOther(day, kind, patrol)
                    && holderOn(day - 1, kind) != patrol
                    && holderOn(day + 1, kind) != patrol;
        }

        // Every scout is at least of the youngest age: for all kinds but WATCH any scout does.
        boolean hasFitScout(int kind, int patrol, People people) {
            int least = kind == WATCH ? WATCH_AGE : YOUNGEST;
            return (people.membersOf(patrol) & people.agedAtLeast(least)) != 0;
        }

        boolean doesOther(int day, int kind, int patrol) {
            for (int other = 0; other < KINDS; other++) {
                if (other != kind && holderOn(day, other) == patrol) {
                    return true;
                }
            }
            return false;
        }

        void assign(int day, int kind, int patrol) {
            int before = holderOn(day, kind);
            if (before != NONE) {
                points[before] -= POINTS[kind];
            }
            if (patrol != NONE) {
                points[patrol] += POINTS[kind];
            }
            holders[day * KINDS + kind] = patrol;
        }

        int bestFor(int day, int kind, People people) {
            int best = NONE;
            for (int patrol = 0; patrol < people.patrols; patrol++) {
                boolean isBetter = best == NONE || points[patrol] < points[best];
                if (isBetter && canBeGiven(day, kind, patrol, people)) {
                    best = patrol;
                }
            }
            return best;
        }

        int openOn(int day) {
            int open = 0;
            for (int kind = 0; kind < KINDS; kind++) {
                if (holderOn(day, kind) == NONE) {
                    open++;
                }
            }
            return open;
        }
    }

    /** The foods with their stores, the meals, and what was eaten today. */
    private static final class Kitchen {
        private static final int MEALS_A_DAY = 3;

        int foods;
        int meals;
        int mealsToday;
        long ateToday;
        final int[] stores = new int[MOST_FOODS];
        final int[] needs = new int[MOST_MEALS * MOST_FOODS];

        int needOf(int meal, int food) {
            return needs[meal * MOST_FOODS + food];
        }

        int foodsOf(int meal) {
            int set = 0;
            for (int food = 0; food < foods; food++) {
                if (needOf(meal, food) > 0) {
                    set |= 1 << food;
                }
            }
            return set;
        }

        long eatersOf(int meal, People people) {
            int inMeal = foodsOf(meal);
            long set = 0;
            for (int scout = 0; scout < people.scouts; scout++) {
                if ((people.refused[scout] & inMeal) == 0) {
                    set |= 1L << scout;
                }
            }
            return set;
        }

        boolean canBeEaten(int meal, People people) {
            int eating = Long.bitCount(eatersOf(meal, people));
            return mealsToday < MEALS_A_DAY
                    && foodsOf(meal) != 0
                    && eating > 0
                    && isStocked(meal, eating);
        }

        boolean isStocked(int meal, int eating) {
            for (int food = 0; food < foods; food++) {
                if (needOf(meal, food) * eating > stores[food]) {
                    return false;
                }
            }
            return true;
        }

        int serve(int meal, People people) {
            long eating = eatersOf(meal, people);
            int number = Long.bitCount(eating);
            for (int food = 0; food < foods; food++) {
                stores[food] -= needOf(meal, food) * number;
            }
            ateToday |= eating;
            mealsToday++;
            return number;
        }

        int bestMeal(People people) {
            int best = NONE;
            int most = -1;
            for (int meal = 0; meal < meals; meal++) {
                int fed = Long.bitCount(eatersOf(meal, people) & ~ateToday);
                if (fed > most && canBeEaten(meal, people)) {
                    best = meal;
                    most = fed;
                }
            }
            return best;
        }

        void clearTable() {
            mealsToday = 0;
            ateToday = 0;
        }
    }

    /** The badges with their least ages and the hours that they want. */
    private static final class Badges {
        private static final int TOO_YOUNG = -1;
        private static final int HAS_IT = -2;

        int size;
        final int[] leastAge = new int[MOST_BADGES];
        final int[] wants = new int[MOST_BADGES * ACTIVITIES];

        int distance(int scout, int badge, People people) {
            if (people.age[scout] < leastAge[badge]) {
                return TOO_YOUNG;
            }
            if ((people.badges[scout] & (1 << badge)) != 0) {
                return HAS_IT;
            }
            return hoursLacking(scout, badge, people);
        }

        int hoursLacking(int scout, int badge, People people) {
            int sum = 0;
            for (int activity = 0; activity < ACTIVITIES; activity++) {
                int wanted = wants[badge * ACTIVITIES + activity];
                sum += Math.max(0, wanted - people.hoursIn(scout, activity));
            }
            return sum;
        }
    }
}
