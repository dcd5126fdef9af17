import java.util.NoSuchElementException;

/**
 * A verifier of timed systems: places with greatest values of two clocks, edges with conditions that set clocks back;
 * all runs with real times are told by zones, found state by state, and by regions, one by one; what is reached, safe
 * and stuck is asked, and walks in quarters are made with their cost.
 */
public final class UrgentiaZones {
    private static final int MOST_PLACES = 10;
    private static final int MOST_EDGES = 20;
    private static final int MOST_CONDITIONS = 3;
    private static final int MOST_STATES = 100;
    private static final int MOST_RATE = 9;
    private static final int MOST_PRICE = 99;
    private static final int MOST_VALUE = 8;
    private static final int MOST_QUARTERS = 100;
    private static final int MOST_TIME = 9999;
    private static final int CLOCKS = 2;
    private static final int QUARTERS = 4;

    /** What stands for no value, no edge and no region: all of these are numbered from 0. */
    private static final int NONE = -1;

    private final Plan plan = new Plan();
    private final StateSearch stateSearch = new StateSearch();
    private final RegionSearch regionSearch = new RegionSearch();
    private final Walk walk = new Walk();

    /** Creates a system without places and edges. */
    public UrgentiaZones() {
    }

    // Places and edges.

    /** Adds a place and returns its number. */
    public int addPlace(boolean isUrgent, int rate) throws IllegalArgumentException, IllegalStateException {
        needRange(rate, 0, MOST_RATE);
        if (plan.placeCount >= MOST_PLACES) {
            throw new IllegalStateException("there are 10 places");
        }
        int added = plan.appendPlace(isUrgent, rate);
        forget();
        return added;
    }

    /** Sets the greatest value of a clock in a place, -1 for none, and returns the one before. */
    public int setGreatest(int place, int clock, int value)
            throws IndexOutOfBoundsException, IllegalArgumentException {
        needPlace(place);
        needClock(clock);
        needRange(value, NONE, MOST_VALUE);
        int index = place * CLOCKS + clock;
        int before = plan.greatest[index];
        plan.greatest[index] = value;
        forget();
        return before;
    }

    /** Adds an edge without conditions that sets no clock back, and returns its number. */
    public int addEdge(int from, int to, int price)
            throws IndexOutOfBoundsException, IllegalArgumentException, IllegalStateException {
        needPlace(from);
        needPlace(to);
        needRange(price, 0, MOST_PRICE);
        if (plan.edgeCount >= MOST_EDGES) {
            throw new IllegalStateException("there are 20 edges");
        }
        int added = plan.appendEdge(from, to, price);
        forget();
        return added;
    }

    /** Adds a condition to an edge and returns the number of its conditions. */
    public int addCondition(int edge, int clock, char relation, int value)
            throws IndexOutOfBoundsException, IllegalArgumentException, IllegalStateException {
        needEdge(edge);
        needClock(clock);
        if (!isRelation(relation)) {
            throw new IllegalArgumentException("there is no such relation");
        }
        needRange(value, 0, MOST_VALUE);
        if (plan.conditionCount[edge] >= MOST_CONDITIONS) {
            throw new IllegalStateException("the edge has 3 conditions");
        }
        int count = plan.appendCondition(edge, clock, relation, value);
        forget();
        return count;
    }

    /** Sets whether an edge sets a clock back, and returns whether it did. */
    public boolean setBack(int edge, int clock, boolean isBack) throws IndexOutOfBoundsException {
        needEdge(edge);
        needClock(clock);
        int index = edge * CLOCKS + clock;
        boolean before = plan.back[index];
        plan.back[index] = isBack;
        forget();
        return before;
    }

    /** Marks a place as bad, or not any more, and returns whether it was. */
    public boolean mark(int place, boolean isBad) throws IndexOutOfBoundsException {
        needPlace(place);
        boolean before = plan.bad[place];
        plan.bad[place] = isBad;
        return before;
    }

    // States.

    /** Returns the number of states. */
    public int states() throws IllegalStateException, UnsupportedOperationException {
        needStates();
        return stateSearch.count;
    }

    /** Returns the place of a state. */
    public int placeOf(int state)
            throws IllegalStateException, UnsupportedOperationException, IndexOutOfBoundsException {
        needStates();
        needState(state);
        return stateSearch.statePlace[state];
    }

    /** Returns a bound of the zone of a state. */
    public int bound(int state, int first, int second)
            throws IllegalStateException, UnsupportedOperationException, IndexOutOfBoundsException {
        needStates();
        needState(state);
        needNumber(first);
        needNumber(second);
        return stateSearch.bounds[state * Zone.SIZE + first * Zone.NUMBERS + second];
    }

    /** Returns the edge by which a state was found first. */
    public int foundBy(int state) throws IllegalStateException, UnsupportedOperationException,
            IndexOutOfBoundsException, NoSuchElementException {
        needStates();
        needState(state);
        int edge = stateSearch.stateEdge[state];
        if (edge < 0) {
            throw new NoSuchElementException("no edge leads to the state 0 first");
        }
        return edge;
    }

    /** Returns whether a place is reached, by the states. */
    public boolean reaches(int place) throws IndexOutOfBoundsException, UnsupportedOperationException {
        needPlace(place);
        needStates();
        return stateSearch.reachesPlace(place);
    }

    /** Returns whether a place is reached, by the regions. */
    public boolean reachesAnew(int place) throws IndexOutOfBoundsException {
        needPlace(place);
        regionSearch.find(plan);
        return regionSearch.fewestEdges[place] >= 0;
    }

    /** Returns the least number of edges by which a place is reached. */
    public int edgesTo(int place) throws IndexOutOfBoundsException, NoSuchElementException {
        needPlace(place);
        regionSearch.find(plan);
        int least = regionSearch.fewestEdges[place];
        if (least < 0) {
            throw new NoSuchElementException("the place is not reached");
        }
        return least;
    }

    /** Returns the number of regions, with their places. */
    public int regions() throws IllegalStateException {
        needPlaces();
        regionSearch.find(plan);
        return regionSearch.count;
    }

    /** Returns whether no bad place is reached. */
    public boolean isSafe() throws IllegalStateException {
        needPlaces();
        regionSearch.find(plan);
        boolean isSafeYet = true;
        for (int place = 0; place < plan.placeCount; place++) {
            if (plan.bad[place] && regionSearch.fewestEdges[place] >= 0) {
                isSafeYet = false;
            }
        }
        return isSafeYet;
    }

    /** Returns in how many regions, with their places, no edge can be taken, now or behind time. */
    public int stuck() throws IllegalStateException {
        needPlaces();
        regionSearch.find(plan);
        return regionSearch.stuckCount;
    }

    // Walks.

    /** Begins a walk anew and returns the time that it had. */
    public int begin() throws IllegalStateException {
        needPlaces();
        int before = walk.passed;
        walk.restart();
        return before;
    }

    /** Lets quarters pass and returns the time then. */
    public int pass(int quarters) throws IllegalArgumentException, IllegalStateException,
            UnsupportedOperationException, ArithmeticException {
        needRange(quarters, 1, MOST_QUARTERS);
        needPlaces();
        if (!walk.canWait(plan, quarters)) {
            throw new UnsupportedOperationException("time cannot pass so far here");
        }
        if (walk.passed + quarters > MOST_TIME) {
            throw new ArithmeticException("the time would be too great");
        }
        walk.letPass(plan, quarters);
        return walk.passed;
    }

    /** Takes an edge and returns the number of the place. */
    public int take(int edge) throws IndexOutOfBoundsException, UnsupportedOperationException {
        needEdge(edge);
        if (!walk.canFollow(plan, edge)) {
            throw new UnsupportedOperationException("the edge cannot be taken");
        }
        walk.follow(plan, edge);
        return walk.at;
    }

    /** Returns whether an edge can be taken. */
    public boolean canTake(int edge) throws IndexOutOfBoundsException {
        needEdge(edge);
        return walk.canFollow(plan, edge);
    }

    /** Returns the least number of quarters behind which an edge can be taken. */
    public int leastWait(int edge) throws IndexOutOfBoundsException, NoSuchElementException {
        needEdge(edge);
        int least = walk.shortestWait(plan, edge);
        if (least < 0) {
            throw new NoSuchElementException("the edge cannot be taken behind any time");
        }
        return least;
    }

    /** Returns the place in which the walk is. */
    public int place() throws IllegalStateException {
        needPlaces();
        return walk.at;
    }

    /** Returns the value of a clock in the walk, in quarters. */
    public int clock(int clock) throws IndexOutOfBoundsException {
        needClock(clock);
        return clock == 0 ? walk.first : walk.second;
    }

    /** Returns the time of the walk, in quarters. */
    public int time() {
        return walk.passed;
    }

    /** Returns the cost of the walk. */
    public long cost() {
        return walk.spent;
    }

    // Figures.

    /** Returns the share of the places that are reached. */
    public float reachedShare() throws ArithmeticException {
        int all = plan.placeCount;
        if (all == 0) {
            throw new ArithmeticException("there are no places");
        }
        regionSearch.find(plan);
        int reached = 0;
        for (int place = 0; place < all; place++) {
            if (regionSearch.fewestEdges[place] >= 0) {
                reached++;
            }
        }
        return (float) reached / (float) all;
    }

    /** Returns the mean number of edges that lead from a place, rounded to quarters. */
    public double meanDegree() throws ArithmeticException {
        int all = plan.placeCount;
        if (all == 0) {
            throw new ArithmeticException("there are no places");
        }
        double exact = (double) plan.edgeCount / (double) all * 4.0;
        return (double) roundToEven(exact) / 4.0;
    }

    /** Returns a sum over all bounds of all states. */
    public long checksum() throws IllegalStateException, UnsupportedOperationException {
        needStates();
        return stateSearch.sumUp();
    }

    /** Returns whether states, regions and the walk agree, and all bounds are as narrow as they can be. */
    public boolean isSound() {
        if (plan.placeCount == 0) {
            return true;
        }
        stateSearch.find(plan);
        regionSearch.find(plan);
        return (stateSearch.isGivenUp || searchesAgree())
                && regionSearch.fewestEdges[walk.at] >= 0
                && stateSearch.areNarrow();
    }

    // What the calls share.

    private void needPlaces() {
        if (plan.placeCount == 0) {
            throw new IllegalStateException("there are no places");
        }
    }

    private void needStates() {
        needPlaces();
        stateSearch.find(plan);
        if (stateSearch.isGivenUp) {
            throw new UnsupportedOperationException("there are too many states");
        }
    }

    private void needPlace(int place) {
        if (place < 0 || place >= plan.placeCount) {
            throw new IndexOutOfBoundsException("there is no such place");
        }
    }

    private void needEdge(int edge) {
        if (edge < 0 || edge >= plan.edgeCount) {
            throw new IndexOutOfBoundsException("there is no such edge");
        }
    }

    private void needState(int state) {
        if (state < 0 || state >= stateSearch.count) {
            throw new IndexOutOfBoundsException("there is no such state");
        }
    }

    private static void needClock(int clock) {
        if (clock < 0 || clock >= CLOCKS) {
            throw new IndexOutOfBoundsException("there is no such clock");
        }
    }

    private static void needNumber(int number) {
        if (number < 0 || number >= Zone.NUMBERS) {
            throw new IndexOutOfBoundsException("there is no such number");
        }
    }

    private static void needRange(int value, int least, int most) {
        if (value < least || value > most) {
            throw new IllegalArgumentException("a value is out of range");
        }
    }

    private static boolean isRelation(char relation) {
        return relation == '<' || relation == 'l' || relation == '=' || relation == 'g' || relation == '>';
    }

    /** Each change of the runs ends the walk, and what the searches found holds no more. */
    private void forget() {
        stateSearch.isKnown = false;
        regionSearch.isKnown = false;
        walk.restart();
    }

    private boolean searchesAgree() {
        boolean agree = true;
        for (int place = 0; place < plan.placeCount; place++) {
            if (stateSearch.reachesPlace(place) != (regionSearch.fewestEdges[place] >= 0)) {
                agree = false;
            }
        }
        return agree;
    }

    private static long roundToEven(double exact) {
        long below = (long) exact;
        double rest = exact - (double) below;
        boolean isUp = rest > 0.5 || (rest == 0.5 && (below & 1L) == 1L);
        return isUp ? below + 1L : below;
    }

    /** The places and edges, as they were told. */
    private static final class Plan {
        int placeCount;
        final boolean[] urgent = new boolean[MOST_PLACES];
        final boolean[] bad = new boolean[MOST_PLACES];
        final int[] rates = new int[MOST_PLACES];
        final int[] greatest = new int[MOST_PLACES * CLOCKS];

        int edgeCount;
        final int[] from = new int[MOST_EDGES];
        final int[] to = new int[MOST_EDGES];
        final int[] prices = new int[MOST_EDGES];
        final boolean[] back = new boolean[MOST_EDGES * CLOCKS];

        final int[] conditionCount = new int[MOST_EDGES];
        final int[] conditionClock = new int[MOST_EDGES * MOST_CONDITIONS];
        final char[] conditionRelation = new char[MOST_EDGES * MOST_CONDITIONS];
        final int[] conditionValue = new int[MOST_EDGES * MOST_CONDITIONS];

        int appendPlace(boolean isUrgent, int rate) {
            int added = placeCount;
            urgent[added] = isUrgent;
            rates[added] = rate;
            greatest[added * CLOCKS] = NONE;
            greatest[added * CLOCKS + 1] = NONE;
            placeCount = added + 1;
            return added;
        }

        int appendEdge(int source, int target, int price) {
            int added = edgeCount;
            from[added] = source;
            to[added] = target;
            prices[added] = price;
            edgeCount = added + 1;
            return added;
        }

        int appendCondition(int edge, int clock, char relation, int value) {
            int index = edge * MOST_CONDITIONS + conditionCount[edge];
            conditionClock[index] = clock;
            conditionRelation[index] = relation;
            conditionValue[index] = value;
            conditionCount[edge]++;
            return conditionCount[edge];
        }

        /** Whether an edge can be taken with these values of the clocks, told in parts of which `scale` are 1. */
        boolean opens(int edge, int first, int second, int scale) {
            return conditionsHold(edge, first, second, scale)
                    && fits(to[edge], behind(edge, 0, first), behind(edge, 1, second), scale);
        }

        /** Whether no clock is above its greatest value in a place. */
        boolean fits(int place, int first, int second, int scale) {
            int mostFirst = greatest[place * CLOCKS];
            int mostSecond = greatest[place * CLOCKS + 1];
            return (mostFirst < 0 || first <= mostFirst * scale)
                    && (mostSecond < 0 || second <= mostSecond * scale);
        }

        /** The value of a clock behind an edge. */
        int behind(int edge, int clock, int value) {
            return back[edge * CLOCKS + clock] ? 0 : value;
        }

        /** The greatest number to which a condition or a greatest value compares a clock, 0 without any. */
        int greatestNumber(int clock) {
            int most = 0;
            for (int place = 0; place < placeCount; place++) {
                most = Math.max(most, greatest[place * CLOCKS + clock]);
            }
            for (int edge = 0; edge < edgeCount; edge++) {
                int start = edge * MOST_CONDITIONS;
                for (int index = start; index < start + conditionCount[edge]; index++) {
                    if (conditionClock[index] == clock) {
                        most = Math.max(most, conditionValue[index]);
                    }
                }
            }
            return most;
        }

        private boolean conditionsHold(int edge, int first, int second, int scale) {
            int start = edge * MOST_CONDITIONS;
            for (int index = start; index < start + conditionCount[edge]; index++) {
                int value = conditionClock[index] == 0 ? first : second;
                if (!compares(value, conditionRelation[index], conditionValue[index] * scale)) {
                    return false;
                }
            }
            return true;
        }

        private static boolean compares(int value, char relation, int number) {
            if (relation == '<') {
                return value < number;
            }
            if (relation == 'l') {
                return value <= number;
            }
            if (relation == '=') {
                return value == number;
            }
            if (relation == 'g') {
                return value >= number;
            }
            return value > number;
        }
    }

    /** A zone: the bound of one number less another stands at the first one times 3 plus the second one. */
    private static final class Zone {
        static final int NUMBERS = 3;
        static final int SIZE = NUMBERS * NUMBERS;

        /** The bound that stands for none; no other one comes near it, as all numbers compared are at most 8. */
        static final int OPEN = 99;

        /** The bound 'not more than 0'. */
        static final int ZERO = 1;

        final int[] bounds = new int[SIZE];

        /** Becomes the zone in which both clocks are 0. */
        void becomeStart() {
            for (int index = 0; index < SIZE; index++) {
                bounds[index] = ZERO;
            }
        }

        void copyFrom(int[] rows, int start) {
            for (int index = 0; index < SIZE; index++) {
                bounds[index] = rows[start + index];
            }
        }

        void copyTo(int[] rows, int start) {
            for (int index = 0; index < SIZE; index++) {
                rows[start + index] = bounds[index];
            }
        }

        /** Whether all values of this zone are in that one. */
        boolean isWithin(int[] rows, int start) {
            for (int index = 0; index < SIZE; index++) {
                if (bounds[index] > rows[start + index]) {
                    return false;
                }
            }
            return true;
        }

        /** Keeps the values for which a condition holds; the bounds are to be closed then. */
        void restrict(int clock, char relation, int number) {
            int row = clock + 1;
            if (relation == '<') {
                narrow(row, 0, 2 * number);
            }
            if (relation == 'l' || relation == '=') {
                narrow(row, 0, 2 * number + 1);
            }
            if (relation == 'g' || relation == '=') {
                narrow(0, row, 1 - 2 * number);
            }
            if (relation == '>') {
                narrow(0, row, -2 * number);
            }
        }

        /** Lets time pass without an end. */
        void elapse() {
            bounds[NUMBERS] = OPEN;
            bounds[2 * NUMBERS] = OPEN;
        }

        /** Sets a clock back: it is compared then as the number 0 is. */
        void reset(int clock) {
            int row = clock + 1;
            int other = 2 - clock;
            bounds[row * NUMBERS] = ZERO;
            bounds[row] = ZERO;
            bounds[row * NUMBERS + other] = bounds[other];
            bounds[other * NUMBERS + row] = bounds[other * NUMBERS];
        }

        /** Forgets what a clock is above the greatest number that it is compared to; to be closed then. */
        void widen(int clock, int number) {
            int row = clock + 1;
            for (int other = 0; other < NUMBERS; other++) {
                int less = row * NUMBERS + other;
                if (bounds[less] > 2 * number + 1) {
                    bounds[less] = OPEN;
                }
                int more = other * NUMBERS + row;
                if (bounds[more] < -2 * number) {
                    bounds[more] = -2 * number;
                }
            }
        }

        /** Makes the bounds as narrow as they can be, and tells whether there are any values. */
        boolean close() {
            for (int middle = 0; middle < NUMBERS; middle++) {
                for (int first = 0; first < NUMBERS; first++) {
                    for (int second = 0; second < NUMBERS; second++) {
                        int over = plus(bounds[first * NUMBERS + middle], bounds[middle * NUMBERS + second]);
                        narrow(first, second, over);
                    }
                }
            }
            return bounds[0] == ZERO && bounds[NUMBERS + 1] == ZERO && bounds[2 * NUMBERS + 2] == ZERO;
        }

        /** The bound that two bounds together make: 'not more than' only if both are. */
        static int plus(int one, int two) {
            if (one == OPEN || two == OPEN) {
                return OPEN;
            }
            return one + two - ((one | two) & 1);
        }

        private void narrow(int first, int second, int bound) {
            int index = first * NUMBERS + second;
            if (bound < bounds[index]) {
                bounds[index] = bound;
            }
        }
    }

    /** All states, by rising numbers. */
    private static final class StateSearch {
        boolean isKnown;
        boolean isGivenUp;
        int count;
        final int[] statePlace = new int[MOST_STATES];
        final int[] stateEdge = new int[MOST_STATES];
        final int[] bounds = new int[MOST_STATES * Zone.SIZE];
        private final Zone zone = new Zone();
        private int mostFirst;
        private int mostSecond;

        /** Finds all states of the plan, unless they are known. */
        void find(Plan plan) {
            if (isKnown) {
                return;
            }
            isKnown = true;
            isGivenUp = false;
            count = 0;
            mostFirst = plan.greatestNumber(0);
            mostSecond = plan.greatestNumber(1);
            zone.becomeStart();
            if (enter(plan, 0)) {
                keep(0, NONE);
            }
            for (int state = 0; state < count && state < MOST_STATES && !isGivenUp; state++) {
                followEdges(plan, state);
            }
        }

        boolean reachesPlace(int place) {
            for (int state = 0; state < count; state++) {
                if (statePlace[state] == place) {
                    return true;
                }
            }
            return false;
        }

        long sumUp() {
            long sum = 0L;
            for (int index = 0; index < count * Zone.SIZE; index++) {
                sum = 31L * sum + (long) bounds[index];
            }
            return sum;
        }

        /** Whether no bound can be made narrower by two others. */
        boolean areNarrow() {
            for (int state = 0; state < count; state++) {
                if (!isNarrow(state * Zone.SIZE)) {
                    return false;
                }
            }
            return true;
        }

        private boolean isNarrow(int start) {
            for (int pair = 0; pair < Zone.SIZE; pair++) {
                int first = start + pair / Zone.NUMBERS * Zone.NUMBERS;
                int second = start + pair % Zone.NUMBERS;
                for (int middle = 0; middle < Zone.NUMBERS; middle++) {
                    int over = Zone.plus(bounds[first + middle], bounds[second + middle * Zone.NUMBERS]);
                    if (over < bounds[start + pair]) {
                        return false;
                    }
                }
            }
            return true;
        }

        private void followEdges(Plan plan, int state) {
            for (int edge = 0; edge < plan.edgeCount && !isGivenUp; edge++) {
                if (plan.from[edge] == statePlace[state]) {
                    zone.copyFrom(bounds, state * Zone.SIZE);
                    if (cross(plan, edge) && enter(plan, plan.to[edge])) {
                        keep(plan.to[edge], edge);
                    }
                }
            }
        }

        /** Makes the zone what comes of it by an edge, but for the greatest values of the place to which it leads. */
        private boolean cross(Plan plan, int edge) {
            int start = edge * MOST_CONDITIONS;
            for (int index = start; index < start + plan.conditionCount[edge]; index++) {
                zone.restrict(plan.conditionClock[index], plan.conditionRelation[index], plan.conditionValue[index]);
            }
            if (!zone.close()) {
                return false;
            }
            for (int clock = 0; clock < CLOCKS; clock++) {
                if (plan.back[edge * CLOCKS + clock]) {
                    zone.reset(clock);
                }
            }
            return true;
        }

        /** Makes the zone what comes of it in a place by time, widened, and tells whether there is any value. */
        private boolean enter(Plan plan, int place) {
            if (!holdGreatest(plan, place)) {
                return false;
            }
            if (!plan.urgent[place]) {
                zone.elapse();
                holdGreatest(plan, place);
            }
            zone.widen(0, mostFirst);
            zone.widen(1, mostSecond);
            return zone.close();
        }

        private boolean holdGreatest(Plan plan, int place) {
            for (int clock = 0; clock < CLOCKS; clock++) {
                int most = plan.greatest[place * CLOCKS + clock];
                if (most >= 0) {
                    zone.restrict(clock, 'l', most);
                }
            }
            return zone.close();
        }

        /** Keeps the zone as a new state, unless one that there is has all of its values. */
        private void keep(int place, int edge) {
            for (int state = 0; state < count; state++) {
                if (statePlace[state] == place && zone.isWithin(bounds, state * Zone.SIZE)) {
                    return;
                }
            }
            if (count >= MOST_STATES) {
                isGivenUp = true;
                return;
            }
            statePlace[count] = place;
            stateEdge[count] = edge;
            zone.copyTo(bounds, count * Zone.SIZE);
            count++;
        }
    }

    /** A set of numbers below a length. */
    private static final class Marks {
        private static final int WIDTH = 32;
        private final int[] words = new int[RegionSearch.CODES / WIDTH + 1];

        boolean has(int number) {
            return (words[number / WIDTH] >> number % WIDTH & 1) == 1;
        }

        void put(int number) {
            words[number / WIDTH] |= 1 << number % WIDTH;
        }

        void clear() {
            for (int index = 0; index < words.length; index++) {
                words[index] = 0;
            }
        }
    }

    /**
     * All regions with their places, each as one code. A clock is told in halves there: an even number for a whole
     * value, an odd one for what is between two of them, and ABOVE for all that is greater than 8.
     */
    private static final class RegionSearch {
        private static final int HALVES = 2;
        private static final int ABOVE = MOST_VALUE * HALVES + 1;
        private static final int KINDS = ABOVE + 1;

        /** How the parts behind the point compare; SAME, too, where they tell nothing apart. */
        private static final int SAME = 0;
        private static final int LESS = 1;
        private static final int GREATER = 2;
        private static final int ORDERS = 3;

        static final int CODES = MOST_PLACES * KINDS * KINDS * ORDERS;

        /** For each place, each two kinds once, and two times more where both clocks are between whole numbers. */
        private static final int MOST_REGIONS = MOST_PLACES * (KINDS * KINDS + 2 * MOST_VALUE * MOST_VALUE);

        boolean isKnown;
        int count;
        int stuckCount;
        final int[] fewestEdges = new int[MOST_PLACES];
        private final int[] queue = new int[MOST_REGIONS];
        private final Marks found = new Marks();
        private final Marks lively = new Marks();

        /** Finds all regions of the plan, by rising numbers of edges to them, unless they are known. */
        void find(Plan plan) {
            if (isKnown) {
                return;
            }
            isKnown = true;
            count = 0;
            stuckCount = 0;
            found.clear();
            lively.clear();
            for (int place = 0; place < MOST_PLACES; place++) {
                fewestEdges[place] = NONE;
            }
            addWithTime(plan, codeOf(0, 0, 0, SAME), 0);
            int level = 0;
            int levelEnd = count;
            for (int index = 0; index < count && index < MOST_REGIONS; index++) {
                if (index == levelEnd) {
                    level++;
                    levelEnd = count;
                }
                followEdges(plan, queue[index], level + 1);
            }
        }

        private void followEdges(Plan plan, int code, int level) {
            int first = firstOf(code);
            int second = secondOf(code);
            for (int edge = 0; edge < plan.edgeCount; edge++) {
                if (plan.from[edge] == placeIn(code) && plan.opens(edge, first, second, HALVES)) {
                    int nextFirst = plan.behind(edge, 0, first);
                    int nextSecond = plan.behind(edge, 1, second);
                    addWithTime(plan, codeOf(plan.to[edge], nextFirst, nextSecond, orderOf(code)), level);
                }
            }
        }

        /** Adds a region and those that come of it by time, up to one that there is: behind it all are there. */
        private void addWithTime(Plan plan, int start, int level) {
            int begun = count;
            int code = start;
            while (code >= 0 && !found.has(code) && count < MOST_REGIONS) {
                found.put(code);
                queue[count] = code;
                count++;
                code = nextByTime(plan, code);
            }
            if (fewestEdges[placeIn(start)] < 0) {
                fewestEdges[placeIn(start)] = level;
            }
            boolean isLively = code >= 0 && lively.has(code);
            for (int index = count - 1; index >= begun; index--) {
                isLively = isLively || canLeave(plan, queue[index]);
                if (isLively) {
                    lively.put(queue[index]);
                } else {
                    stuckCount++;
                }
            }
        }

        private static boolean canLeave(Plan plan, int code) {
            for (int edge = 0; edge < plan.edgeCount; edge++) {
                if (plan.from[edge] == placeIn(code) && plan.opens(edge, firstOf(code), secondOf(code), HALVES)) {
                    return true;
                }
            }
            return false;
        }

        /** The region to which time leads out of one in its place, or NONE. */
        private static int nextByTime(Plan plan, int code) {
            int place = placeIn(code);
            int first = firstOf(code);
            int second = secondOf(code);
            if (plan.urgent[place] || (first == ABOVE && second == ABOVE)) {
                return NONE;
            }
            boolean someWhole = isWhole(first) || isWhole(second);
            boolean firstMoves = someWhole ? isWhole(first) : comesFirst(first, second, orderOf(code), LESS);
            boolean secondMoves = someWhole ? isWhole(second) : comesFirst(second, first, orderOf(code), GREATER);
            int nextFirst = firstMoves ? first + 1 : first;
            int nextSecond = secondMoves ? second + 1 : second;
            if (!plan.fits(place, nextFirst, nextSecond, HALVES)) {
                return NONE;
            }
            int order = firstMoves == secondMoves ? SAME : firstMoves ? LESS : GREATER;
            return codeOf(place, nextFirst, nextSecond, order);
        }

        /** Of two clocks that are not whole, whether this one is whole next, unless it is behind the other one. */
        private static boolean comesFirst(int mine, int other, int order, int behind) {
            return mine != ABOVE && (other == ABOVE || order != behind);
        }

        private static boolean isWhole(int kind) {
            return kind % HALVES == 0;
        }

        private static boolean isBetween(int kind) {
            return !isWhole(kind) && kind != ABOVE;
        }

        private static int codeOf(int place, int first, int second, int order) {
            int told = isBetween(first) && isBetween(second) ? order : SAME;
            return ((place * KINDS + first) * KINDS + second) * ORDERS + told;
        }

        private static int placeIn(int code) {
            return code / (KINDS * KINDS * ORDERS);
        }

        private static int firstOf(int code) {
            return code / (KINDS * ORDERS) % KINDS;
        }

        private static int secondOf(int code) {
            return code / ORDERS % KINDS;
        }

        private static int orderOf(int code) {
            return code % ORDERS;
        }
    }

    /** The walk, in quarters. */
    private static final class Walk {
        /** Behind this wait both clocks are above 8, and more time opens nothing. */
        private static final int LONGEST_WAIT = MOST_VALUE * QUARTERS + 1;

        int at;
        int first;
        int second;
        int passed;
        long spent;

        void restart() {
            at = 0;
            first = 0;
            second = 0;
            passed = 0;
            spent = 0L;
        }

        boolean canWait(Plan plan, int quarters) {
            return !plan.urgent[at] && plan.fits(at, first + quarters, second + quarters, QUARTERS);
        }

        void letPass(Plan plan, int quarters) {
            first += quarters;
            second += quarters;
            passed += quarters;
            spent += (long) plan.rates[at] * (long) quarters;
        }

        boolean canFollow(Plan plan, int edge) {
            return plan.from[edge] == at && plan.opens(edge, first, second, QUARTERS);
        }

        void follow(Plan plan, int edge) {
            first = plan.behind(edge, 0, first);
            second = plan.behind(edge, 1, second);
            at = plan.to[edge];
            spent += (long) plan.prices[edge];
        }

        /** The least number of quarters behind which an edge can be taken, or NONE. */
        int shortestWait(Plan plan, int edge) {
            if (plan.from[edge] != at) {
                return NONE;
            }
            for (int wait = 0; wait <= LONGEST_WAIT; wait++) {
                if (wait > 0 && !canWait(plan, wait)) {
                    return NONE;
                }
                if (plan.opens(edge, first + wait, second + wait, QUARTERS)) {
                    return wait;
                }
            }
            return NONE;
        }
    }
}
