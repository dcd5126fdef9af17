import java.util.ArrayList;
import java.util.List;
import java.util.function.Function;
import java.util.function.Supplier;

/**
 * Each refused call: it throws the exception that is documented first of those that apply, and changes nothing. Three
 * like objects are made for each: one is refused at once, one after its states and regions were found, and one is not
 * called; then all three must answer alike, first to what is asked, then to walks, then to changes.
 */
public final class UrgentiaZonesRefusals {
    private static final String INDEX = "IndexOutOfBoundsException";
    private static final String ARGUMENT = "IllegalArgumentException";
    private static final String STATE = "IllegalStateException";
    private static final String UNSUPPORTED = "UnsupportedOperationException";
    private static final String ARITHMETIC = "ArithmeticException";
    private static final String NO_ELEMENT = "NoSuchElementException";

    private static final int MOST_PLACES = 10;
    private static final int MOST_EDGES = 20;
    private static final int STATES_ASKED = 8;

    private static int refused = 0;
    private static int wrong = 0;

    private static Object answer(Supplier<Object> call) {
        try {
            return call.get();
        } catch (RuntimeException e) {
            return "/ by zero".equals(e.getMessage()) ? "the machine" : e.getClass().getSimpleName();
        }
    }

    public static void main(String[] args) {
        withoutPlaces();
        inAWalk();
        inAWalkByStates();
        inAWalkBySteps();
        whereAllIsFull();
        whereItIsGivenUp();
        whereTimeIsOver();
        System.out.println(wrong == 0 ? "all " + refused + " refused calls hold" : wrong + " answers are not as due");
        if (wrong != 0) {
            System.exit(1);
        }
    }

    // What is compared.

    private static void check(boolean holds, String words) {
        if (!holds) {
            wrong++;
            System.out.println(words);
        }
    }

    /** On a new system, a call must throw what is due, and all must be told as on one without the call. */
    private static void refuses(Supplier<UrgentiaZones> system, String words, String due,
            Function<UrgentiaZones, Object> call) {
        refused++;
        UrgentiaZones plain = system.get();
        UrgentiaZones atOnce = system.get();
        UrgentiaZones asked = system.get();
        asked.isSound();
        Object got = answer(() -> call.apply(atOnce));
        check(due.equals(got), words + " answered " + got + ", due is " + due);
        Object later = answer(() -> call.apply(asked));
        check(due.equals(later), words + ", when it was asked before, answered " + later + ", due is " + due);
        List<Object> want = all(plain);
        check(want.equals(all(atOnce)), words + " changed something");
        check(want.equals(all(asked)), words + " changed something of what was found");
    }

    private static List<Object> all(UrgentiaZones x) {
        List<Object> told = new ArrayList<>();
        addAsked(told, x);
        addWalked(told, x);
        addChanged(told, x);
        return told;
    }

    private static void addAsked(List<Object> told, UrgentiaZones x) {
        List<Supplier<Object>> calls = List.of(x::time, x::cost, x::place, () -> x.clock(0), () -> x.clock(1), x::states,
            x::checksum, x::regions, x::stuck, x::isSafe, x::reachedShare, x::meanDegree, x::isSound);
        for (Supplier<Object> call : calls) {
            told.add(answer(call));
        }
        for (int place = 0; place <= MOST_PLACES; place++) {
            int number = place;
            told.add(answer(() -> x.reaches(number)));
            told.add(answer(() -> x.edgesTo(number)));
        }
        for (int state = 0; state < STATES_ASKED; state++) {
            int number = state;
            told.add(answer(() -> x.placeOf(number)));
            told.add(answer(() -> x.foundBy(number)));
            for (int index = 0; index < 9; index++) {
                int bound = index;
                told.add(answer(() -> x.bound(number, bound / 3, bound % 3)));
            }
        }
    }

    private static void addWalked(List<Object> told, UrgentiaZones x) {
        for (int edge = 0; edge <= MOST_EDGES; edge++) {
            int number = edge;
            told.add(answer(() -> x.leastWait(number)));
            told.add(answer(() -> x.take(number)));
        }
        told.add(answer(() -> x.pass(1)));
        told.add(x.cost());
        told.add(answer(x::begin));
    }

    /** The last one of each kind tells what was there before, and how many there are. */
    private static void addChanged(List<Object> told, UrgentiaZones x) {
        for (int place = 0; place <= MOST_PLACES; place++) {
            int number = place;
            told.add(answer(() -> x.setGreatest(number, 0, -1)));
            told.add(answer(() -> x.setGreatest(number, 1, -1)));
            told.add(answer(() -> x.mark(number, false)));
        }
        for (int edge = 0; edge <= MOST_EDGES; edge++) {
            int number = edge;
            told.add(answer(() -> x.setBack(number, 0, false)));
            told.add(answer(() -> x.setBack(number, 1, false)));
            told.add(answer(() -> x.addCondition(number, 0, 'g', 0)));
        }
        told.add(answer(() -> x.addPlace(false, 0)));
        told.add(answer(() -> x.addEdge(0, 0, 0)));
        told.add(answer(x::states));
        told.add(answer(x::regions));
    }

    // The systems.

    private static int edge(UrgentiaZones x, int from, int to, int price, String... parts) {
        int edge = x.addEdge(from, to, price);
        for (String part : parts) {
            int clock = part.charAt(0) - '0';
            if (part.charAt(1) == '!') {
                x.setBack(edge, clock, true);
            } else {
                x.addCondition(edge, clock, part.charAt(1), part.charAt(2) - '0');
            }
        }
        return edge;
    }

    /** Three places, of which the last one is not reached; seven edges, the first one with three conditions. */
    private static UrgentiaZones walking() {
        UrgentiaZones x = new UrgentiaZones();
        x.addPlace(false, 2);
        x.addPlace(false, 3);
        x.addPlace(true, 9);
        x.setGreatest(0, 0, 2);
        x.setGreatest(1, 1, 2);
        x.mark(2, true);
        edge(x, 0, 1, 5, "0g1", "1l4", "0l5", "1!");
        edge(x, 1, 0, 7, "1g1", "0!");
        edge(x, 1, 2, 1, "0<0");
        edge(x, 0, 1, 99);
        edge(x, 1, 1, 0, "1!");
        edge(x, 1, 0, 3);
        edge(x, 1, 1, 4, "1g2");
        x.pass(5);
        x.take(0);
        x.pass(4);
        return x;
    }

    /** As many places, edges and conditions as there may be, and a walk in the place 1. */
    private static UrgentiaZones full() {
        UrgentiaZones x = new UrgentiaZones();
        for (int place = 0; place < MOST_PLACES; place++) {
            x.addPlace(place == 9, place);
            x.setGreatest(place, place % 2, place == 0 ? 4 : 8 - place % 3);
        }
        for (int number = 0; number < MOST_EDGES; number++) {
            int from = number % MOST_PLACES;
            edge(x, from, (from + 1) % MOST_PLACES, 5 * number, "0g0", "1g0", "1l8");
            x.setBack(number, number % 2, true);
        }
        x.mark(9, true);
        x.pass(3);
        x.take(0);
        x.pass(2);
        return x;
    }

    /** More than one hundred states, and a walk in the place 2. */
    private static UrgentiaZones givenUp() {
        UrgentiaZones x = new UrgentiaZones();
        for (int place = 0; place < MOST_PLACES; place++) {
            x.addPlace(false, 1);
        }
        edge(x, 0, 0, 0, "0=1", "0!");
        for (int place = 1; place < MOST_PLACES; place++) {
            edge(x, place - 1, place, place);
        }
        edge(x, 9, 9, 0, "0=1", "1=8", "1!");
        x.pass(4);
        x.take(0);
        x.take(1);
        x.take(2);
        x.pass(9);
        return x;
    }

    /** A walk of which the time is at 9990, in the place 0; the place 1 is urgent, the place 2 has greatest values. */
    private static UrgentiaZones late() {
        UrgentiaZones x = new UrgentiaZones();
        x.addPlace(false, 9);
        x.addPlace(true, 1);
        x.addPlace(false, 2);
        x.setGreatest(2, 0, 3);
        edge(x, 0, 1, 1);
        edge(x, 0, 2, 2, "0!");
        for (int hundred = 0; hundred < 99; hundred++) {
            x.pass(100);
        }
        x.pass(90);
        return x;
    }

    private static UrgentiaZones lateIn(int edge) {
        UrgentiaZones x = late();
        x.take(edge);
        return x;
    }

    // The calls.

    private static void withoutPlaces() {
        Supplier<UrgentiaZones> none = UrgentiaZones::new;
        refuses(none, "addPlace: the rate", ARGUMENT, x -> x.addPlace(false, -1));
        refuses(none, "addPlace: the rate", ARGUMENT, x -> x.addPlace(true, 10));
        refuses(none, "setGreatest: no place", INDEX, x -> x.setGreatest(0, 0, 0));
        refuses(none, "setGreatest: no place, ahead of the value", INDEX, x -> x.setGreatest(0, 0, 9));
        refuses(none, "addEdge: no place", INDEX, x -> x.addEdge(0, 0, 0));
        refuses(none, "addEdge: no place, ahead of the price", INDEX, x -> x.addEdge(0, 0, 100));
        refuses(none, "addCondition: no edge", INDEX, x -> x.addCondition(0, 0, 'l', 0));
        refuses(none, "addCondition: no edge, ahead of the relation", INDEX, x -> x.addCondition(0, 0, 'x', 0));
        refuses(none, "setBack: no edge", INDEX, x -> x.setBack(0, 0, true));
        refuses(none, "mark: no place", INDEX, x -> x.mark(0, true));
        refuses(none, "states", STATE, UrgentiaZones::states);
        refuses(none, "placeOf", STATE, x -> x.placeOf(0));
        refuses(none, "placeOf: no places, ahead of the state", STATE, x -> x.placeOf(-1));
        refuses(none, "bound", STATE, x -> x.bound(0, 0, 0));
        refuses(none, "bound: no places, ahead of the state", STATE, x -> x.bound(-1, 0, 0));
        refuses(none, "bound: no places, ahead of the numbers", STATE, x -> x.bound(0, 3, -1));
        refuses(none, "foundBy: no places, ahead of the state 0", STATE, x -> x.foundBy(0));
        refuses(none, "foundBy: no places, ahead of the state", STATE, x -> x.foundBy(-1));
        refuses(none, "reaches", INDEX, x -> x.reaches(0));
        refuses(none, "reachesAnew", INDEX, x -> x.reachesAnew(0));
        refuses(none, "edgesTo", INDEX, x -> x.edgesTo(0));
        refuses(none, "regions", STATE, UrgentiaZones::regions);
        refuses(none, "isSafe", STATE, UrgentiaZones::isSafe);
        refuses(none, "stuck", STATE, UrgentiaZones::stuck);
        refuses(none, "begin", STATE, UrgentiaZones::begin);
        refuses(none, "pass: the number, ahead of no places", ARGUMENT, x -> x.pass(0));
        refuses(none, "pass: the number, ahead of no places", ARGUMENT, x -> x.pass(101));
        refuses(none, "pass: no places", STATE, x -> x.pass(1));
        refuses(none, "pass: no places", STATE, x -> x.pass(100));
        refuses(none, "take", INDEX, x -> x.take(0));
        refuses(none, "canTake", INDEX, x -> x.canTake(0));
        refuses(none, "leastWait", INDEX, x -> x.leastWait(0));
        refuses(none, "place", STATE, UrgentiaZones::place);
        refuses(none, "clock", INDEX, x -> x.clock(2));
        refuses(none, "clock", INDEX, x -> x.clock(-1));
        refuses(none, "reachedShare", ARITHMETIC, UrgentiaZones::reachedShare);
        refuses(none, "meanDegree", ARITHMETIC, UrgentiaZones::meanDegree);
        refuses(none, "checksum", STATE, UrgentiaZones::checksum);
    }

    private static void inAWalk() {
        Supplier<UrgentiaZones> walk = UrgentiaZonesRefusals::walking;
        refuses(walk, "addPlace: the rate, one too small", ARGUMENT, x -> x.addPlace(true, -1));
        refuses(walk, "addPlace: the rate, one too large", ARGUMENT, x -> x.addPlace(false, 10));
        refuses(walk, "setGreatest: the place", INDEX, x -> x.setGreatest(-1, 0, 1));
        refuses(walk, "setGreatest: the place", INDEX, x -> x.setGreatest(3, 0, 1));
        refuses(walk, "setGreatest: the clock", INDEX, x -> x.setGreatest(0, -1, 1));
        refuses(walk, "setGreatest: the clock", INDEX, x -> x.setGreatest(0, 2, 1));
        refuses(walk, "setGreatest: the place, ahead of the value", INDEX, x -> x.setGreatest(3, 1, -2));
        refuses(walk, "setGreatest: the clock, ahead of the value", INDEX, x -> x.setGreatest(2, 2, 9));
        refuses(walk, "setGreatest: the value", ARGUMENT, x -> x.setGreatest(0, 0, -2));
        refuses(walk, "setGreatest: the value", ARGUMENT, x -> x.setGreatest(2, 1, 9));
        refuses(walk, "addEdge: from", INDEX, x -> x.addEdge(-1, 0, 1));
        refuses(walk, "addEdge: from", INDEX, x -> x.addEdge(3, 0, 1));
        refuses(walk, "addEdge: to", INDEX, x -> x.addEdge(0, -1, 1));
        refuses(walk, "addEdge: to", INDEX, x -> x.addEdge(0, 3, 1));
        refuses(walk, "addEdge: from, ahead of the price", INDEX, x -> x.addEdge(3, 0, 100));
        refuses(walk, "addEdge: to, ahead of the price", INDEX, x -> x.addEdge(0, 3, -1));
        refuses(walk, "addEdge: the price", ARGUMENT, x -> x.addEdge(0, 1, -1));
        refuses(walk, "addEdge: the price", ARGUMENT, x -> x.addEdge(2, 0, 100));
        refuses(walk, "addCondition: the edge", INDEX, x -> x.addCondition(-1, 0, 'l', 1));
        refuses(walk, "addCondition: the edge", INDEX, x -> x.addCondition(7, 0, 'l', 1));
        refuses(walk, "addCondition: the clock", INDEX, x -> x.addCondition(1, -1, 'l', 1));
        refuses(walk, "addCondition: the clock", INDEX, x -> x.addCondition(1, 2, 'l', 1));
        refuses(walk, "addCondition: the edge, ahead of all", INDEX, x -> x.addCondition(7, 0, 'x', 9));
        refuses(walk, "addCondition: the clock, ahead of all", INDEX, x -> x.addCondition(0, 2, 'x', 9));
        refuses(walk, "addCondition: the clock, ahead of three", INDEX, x -> x.addCondition(0, 2, 'l', 1));
        refuses(walk, "addCondition: the relation", ARGUMENT, x -> x.addCondition(1, 0, 'e', 1));
        refuses(walk, "addCondition: the number", ARGUMENT, x -> x.addCondition(1, 0, 'l', -1));
        refuses(walk, "addCondition: the number", ARGUMENT, x -> x.addCondition(6, 1, 'l', 9));
        refuses(walk, "addCondition: the relation, ahead of three", ARGUMENT, x -> x.addCondition(0, 0, 'G', 1));
        refuses(walk, "addCondition: the number, ahead of three", ARGUMENT, x -> x.addCondition(0, 0, '<', 9));
        refuses(walk, "addCondition: it has 3", STATE, x -> x.addCondition(0, 0, '<', 8));
        refuses(walk, "setBack: the edge", INDEX, x -> x.setBack(-1, 0, true));
        refuses(walk, "setBack: the edge", INDEX, x -> x.setBack(7, 0, true));
        refuses(walk, "setBack: the clock", INDEX, x -> x.setBack(2, -1, true));
        refuses(walk, "setBack: the clock", INDEX, x -> x.setBack(2, 2, true));
        refuses(walk, "mark: the place", INDEX, x -> x.mark(-1, true));
        refuses(walk, "mark: the place", INDEX, x -> x.mark(3, true));
    }

    private static void inAWalkByStates() {
        Supplier<UrgentiaZones> walk = UrgentiaZonesRefusals::walking;
        refuses(walk, "placeOf: the state", INDEX, x -> x.placeOf(-1));
        refuses(walk, "placeOf: the state", INDEX, x -> x.placeOf(x.states()));
        refuses(walk, "bound: the state", INDEX, x -> x.bound(-1, 0, 0));
        refuses(walk, "bound: the state", INDEX, x -> x.bound(x.states(), 0, 0));
        refuses(walk, "bound: the first number", INDEX, x -> x.bound(0, -1, 0));
        refuses(walk, "bound: the first number", INDEX, x -> x.bound(0, 3, 0));
        refuses(walk, "bound: the second number", INDEX, x -> x.bound(0, 0, -1));
        refuses(walk, "bound: the second number", INDEX, x -> x.bound(0, 0, 3));
        refuses(walk, "foundBy: the state", INDEX, x -> x.foundBy(-1));
        refuses(walk, "foundBy: the state", INDEX, x -> x.foundBy(x.states()));
        refuses(walk, "foundBy: the state 0", NO_ELEMENT, x -> x.foundBy(0));
        refuses(walk, "reaches: the place", INDEX, x -> x.reaches(-1));
        refuses(walk, "reaches: the place", INDEX, x -> x.reaches(3));
        refuses(walk, "reachesAnew: the place", INDEX, x -> x.reachesAnew(-1));
        refuses(walk, "reachesAnew: the place", INDEX, x -> x.reachesAnew(3));
        refuses(walk, "edgesTo: the place", INDEX, x -> x.edgesTo(-1));
        refuses(walk, "edgesTo: the place, ahead of not reached", INDEX, x -> x.edgesTo(3));
        refuses(walk, "edgesTo: not reached", NO_ELEMENT, x -> x.edgesTo(2));
    }

    private static void inAWalkBySteps() {
        Supplier<UrgentiaZones> walk = UrgentiaZonesRefusals::walking;
        refuses(walk, "pass: the number", ARGUMENT, x -> x.pass(0));
        refuses(walk, "pass: the number", ARGUMENT, x -> x.pass(-1));
        refuses(walk, "pass: the number, ahead of the clocks", ARGUMENT, x -> x.pass(101));
        refuses(walk, "pass: the number", ARGUMENT, x -> x.pass(Integer.MAX_VALUE));
        refuses(walk, "pass: one above the greatest value", UNSUPPORTED, x -> x.pass(5));
        refuses(walk, "pass: far above the greatest value", UNSUPPORTED, x -> x.pass(100));
        refuses(walk, "take: the edge", INDEX, x -> x.take(-1));
        refuses(walk, "take: the edge", INDEX, x -> x.take(7));
        refuses(walk, "take: from another place", UNSUPPORTED, x -> x.take(0));
        refuses(walk, "take: from another place, without conditions", UNSUPPORTED, x -> x.take(3));
        refuses(walk, "take: a condition", UNSUPPORTED, x -> x.take(6));
        refuses(walk, "take: the greatest value in the next place", UNSUPPORTED, x -> x.take(5));
        refuses(walk, "canTake: the edge", INDEX, x -> x.canTake(-1));
        refuses(walk, "canTake: the edge", INDEX, x -> x.canTake(7));
        refuses(walk, "leastWait: the edge", INDEX, x -> x.leastWait(-1));
        refuses(walk, "leastWait: the edge", INDEX, x -> x.leastWait(7));
        refuses(walk, "leastWait: from another place", NO_ELEMENT, x -> x.leastWait(0));
        refuses(walk, "leastWait: a condition that never holds", NO_ELEMENT, x -> x.leastWait(2));
        refuses(walk, "leastWait: the greatest value in the next place", NO_ELEMENT, x -> x.leastWait(5));
        refuses(walk, "clock", INDEX, x -> x.clock(-1));
        refuses(walk, "clock", INDEX, x -> x.clock(2));
    }

    private static void whereAllIsFull() {
        Supplier<UrgentiaZones> full = UrgentiaZonesRefusals::full;
        refuses(full, "addPlace: there are 10", STATE, x -> x.addPlace(false, 0));
        refuses(full, "addPlace: there are 10", STATE, x -> x.addPlace(true, 9));
        refuses(full, "addPlace: the rate, ahead of 10 places", ARGUMENT, x -> x.addPlace(false, 10));
        refuses(full, "addPlace: the rate, ahead of 10 places", ARGUMENT, x -> x.addPlace(false, -1));
        refuses(full, "setGreatest: the place", INDEX, x -> x.setGreatest(10, 0, 1));
        refuses(full, "addEdge: there are 20", STATE, x -> x.addEdge(0, 0, 0));
        refuses(full, "addEdge: there are 20", STATE, x -> x.addEdge(9, 9, 99));
        refuses(full, "addEdge: the price, ahead of 20 edges", ARGUMENT, x -> x.addEdge(0, 0, 100));
        refuses(full, "addEdge: the price, ahead of 20 edges", ARGUMENT, x -> x.addEdge(0, 0, -1));
        refuses(full, "addEdge: from, ahead of 20 edges", INDEX, x -> x.addEdge(10, 0, 0));
        refuses(full, "addEdge: to, ahead of all", INDEX, x -> x.addEdge(0, 10, 100));
        refuses(full, "addCondition: it has 3", STATE, x -> x.addCondition(0, 0, 'l', 0));
        refuses(full, "addCondition: it has 3", STATE, x -> x.addCondition(19, 1, '>', 8));
        refuses(full, "addCondition: the edge", INDEX, x -> x.addCondition(20, 0, 'l', 0));
        refuses(full, "addCondition: the clock, ahead of three", INDEX, x -> x.addCondition(19, -1, 'l', 0));
        refuses(full, "addCondition: the relation, ahead of three", ARGUMENT, x -> x.addCondition(19, 0, 'x', 0));
        refuses(full, "addCondition: the number, ahead of three", ARGUMENT, x -> x.addCondition(19, 0, 'l', -1));
        refuses(full, "setBack: the edge", INDEX, x -> x.setBack(20, 0, true));
        refuses(full, "mark: the place", INDEX, x -> x.mark(10, true));
        refuses(full, "reaches: the place", INDEX, x -> x.reaches(10));
        refuses(full, "reachesAnew: the place", INDEX, x -> x.reachesAnew(10));
        refuses(full, "edgesTo: the place", INDEX, x -> x.edgesTo(10));
        refuses(full, "take: the edge", INDEX, x -> x.take(20));
        refuses(full, "canTake: the edge", INDEX, x -> x.canTake(20));
        refuses(full, "leastWait: the edge", INDEX, x -> x.leastWait(20));
    }

    private static void whereItIsGivenUp() {
        Supplier<UrgentiaZones> up = UrgentiaZonesRefusals::givenUp;
        refuses(up, "states: given up", UNSUPPORTED, UrgentiaZones::states);
        refuses(up, "checksum: given up", UNSUPPORTED, UrgentiaZones::checksum);
        refuses(up, "placeOf: given up, also for what was found", UNSUPPORTED, x -> x.placeOf(0));
        refuses(up, "placeOf: given up, ahead of the state", UNSUPPORTED, x -> x.placeOf(-1));
        refuses(up, "placeOf: given up, ahead of the state", UNSUPPORTED, x -> x.placeOf(100));
        refuses(up, "bound: given up, also for what was found", UNSUPPORTED, x -> x.bound(0, 0, 0));
        refuses(up, "bound: given up, ahead of the state", UNSUPPORTED, x -> x.bound(100, 0, 0));
        refuses(up, "bound: given up, ahead of the numbers", UNSUPPORTED, x -> x.bound(0, 3, -1));
        refuses(up, "foundBy: given up, also for what was found", UNSUPPORTED, x -> x.foundBy(1));
        refuses(up, "foundBy: given up, ahead of the state", UNSUPPORTED, x -> x.foundBy(-1));
        refuses(up, "foundBy: given up, ahead of the state 0", UNSUPPORTED, x -> x.foundBy(0));
        refuses(up, "reaches: the place, ahead of given up", INDEX, x -> x.reaches(-1));
        refuses(up, "reaches: the place, ahead of given up", INDEX, x -> x.reaches(10));
        refuses(up, "reaches: given up", UNSUPPORTED, x -> x.reaches(0));
        refuses(up, "reaches: given up", UNSUPPORTED, x -> x.reaches(9));
        refuses(up, "addPlace: there are 10", STATE, x -> x.addPlace(false, 0));
        refuses(up, "addEdge: the price", ARGUMENT, x -> x.addEdge(0, 0, 100));
    }

    private static void whereTimeIsOver() {
        Supplier<UrgentiaZones> late = UrgentiaZonesRefusals::late;
        refuses(late, "pass: one quarter too many", ARITHMETIC, x -> x.pass(10));
        refuses(late, "pass: many quarters too many", ARITHMETIC, x -> x.pass(100));
        refuses(late, "pass: the number, ahead of the time", ARGUMENT, x -> x.pass(101));
        Supplier<UrgentiaZones> urgent = () -> lateIn(0);
        refuses(urgent, "pass: urgent", UNSUPPORTED, x -> x.pass(1));
        refuses(urgent, "pass: urgent, ahead of the time", UNSUPPORTED, x -> x.pass(10));
        refuses(urgent, "pass: the number, ahead of urgent", ARGUMENT, x -> x.pass(0));
        refuses(urgent, "pass: the number, ahead of all", ARGUMENT, x -> x.pass(101));
        Supplier<UrgentiaZones> held = () -> lateIn(1);
        refuses(held, "pass: the time, where the clocks are above by none", ARITHMETIC, x -> x.pass(12));
        refuses(held, "pass: a clock above, ahead of the time", UNSUPPORTED, x -> x.pass(13));
    }
}
