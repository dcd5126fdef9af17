import java.util.NoSuchElementException;
import java.util.function.Supplier;

/** Each promise of the document: ordinary inputs, the edges that it names, and wrong inputs. */
public final class UrgentiaZonesPromises {
    private static final String INDEX = "IndexOutOfBoundsException";
    private static final String ARGUMENT = "IllegalArgumentException";
    private static final String STATE = "IllegalStateException";
    private static final String UNSUPPORTED = "UnsupportedOperationException";
    private static final String ARITHMETIC = "ArithmeticException";
    private static final String NO_ELEMENT = "NoSuchElementException";

    private static int promise = 0;
    private static int row = 0;
    private static int wrong = 0;

    private static void begin(int number) {
        promise = number;
        row = 0;
    }

    /** Compares what a call answers, or the name of what it throws, with what is due. */
    private static void due(Object want, Supplier<Object> call) {
        row++;
        Object got;
        try {
            got = call.get();
        } catch (IllegalArgumentException | IllegalStateException | IndexOutOfBoundsException | ArithmeticException
                | UnsupportedOperationException | NoSuchElementException e) {
            got = e.getClass().getSimpleName();
        }
        if (!want.equals(got)) {
            wrong++;
            System.out.println("promise " + promise + ", row " + row + ": answered " + got + ", due is " + want);
        }
    }

    public static void main(String[] args) {
        newObject();
        places();
        edges();
        conditions();
        beginningAnew();
        states();
        greatestZero();
        givingUp();
        reaching();
        regions();
        safety();
        stuck();
        passing();
        taking();
        waiting();
        walking();
        figures();
        throwingChangesNothing();
        System.out.println(wrong == 0 ? "all promises hold" : wrong + " answers are not as due");
        if (wrong != 0) {
            System.exit(1);
        }
    }

    /** Two places and an edge from the place 0 to the place 1, with price 5; rates 2 and 3. */
    private static UrgentiaZones two() {
        UrgentiaZones x = new UrgentiaZones();
        x.addPlace(false, 2);
        x.addPlace(false, 3);
        x.addEdge(0, 1, 5);
        return x;
    }

    private static void newObject() {
        begin(1);
        UrgentiaZones x = new UrgentiaZones();
        due(STATE, x::states);
        due(STATE, () -> x.placeOf(0));
        due(STATE, () -> x.bound(0, 0, 0));
        due(STATE, () -> x.foundBy(0));
        due(INDEX, () -> x.reaches(0));
        due(INDEX, () -> x.reachesAnew(0));
        due(INDEX, () -> x.edgesTo(0));
        due(STATE, x::regions);
        due(STATE, x::isSafe);
        due(STATE, x::stuck);
        due(STATE, x::begin);
        due(STATE, () -> x.pass(1));
        due(INDEX, () -> x.take(0));
        due(INDEX, () -> x.canTake(0));
        due(INDEX, () -> x.leastWait(0));
        due(STATE, x::place);
        due(0, () -> x.clock(0));
        due(0, () -> x.clock(1));
        due(0, x::time);
        due(0L, x::cost);
        due(ARITHMETIC, x::reachedShare);
        due(ARITHMETIC, x::meanDegree);
        due(STATE, x::checksum);
        due(true, x::isSound);
    }

    private static void places() {
        begin(2);
        UrgentiaZones x = new UrgentiaZones();
        due(ARGUMENT, () -> x.addPlace(false, -1));
        due(ARGUMENT, () -> x.addPlace(true, 10));
        for (int place = 0; place < 10; place++) {
            int number = place;
            due(number, () -> x.addPlace(number % 2 == 1, number));
        }
        due(STATE, () -> x.addPlace(false, 0));
        due(ARGUMENT, () -> x.addPlace(false, 10));

        begin(3);
        due(INDEX, () -> x.setGreatest(-1, 0, 1));
        due(INDEX, () -> x.setGreatest(10, 0, 1));
        due(INDEX, () -> x.setGreatest(0, -1, 1));
        due(INDEX, () -> x.setGreatest(0, 2, 9));
        due(ARGUMENT, () -> x.setGreatest(0, 0, -2));
        due(ARGUMENT, () -> x.setGreatest(0, 0, 9));
        due(-1, () -> x.setGreatest(9, 1, 8));
        due(8, () -> x.setGreatest(9, 1, 0));
        due(-1, () -> x.setGreatest(9, 0, 3));
        due(0, () -> x.setGreatest(9, 1, -1));
        due(-1, () -> x.setGreatest(9, 1, -1));
        due(3, () -> x.setGreatest(9, 0, 3));
        due(-1, () -> x.setGreatest(8, 0, 2));

        begin(7);
        due(INDEX, () -> x.mark(-1, true));
        due(INDEX, () -> x.mark(10, true));
        due(false, () -> x.mark(9, false));
        due(false, () -> x.mark(9, true));
        due(true, () -> x.mark(9, true));
        due(true, () -> x.mark(9, false));
        due(false, () -> x.mark(9, true));
        due(false, () -> x.mark(8, true));
    }

    private static void edges() {
        begin(4);
        UrgentiaZones x = two();
        due(INDEX, () -> x.addEdge(-1, 0, 100));
        due(INDEX, () -> x.addEdge(2, 0, 0));
        due(INDEX, () -> x.addEdge(0, -1, 0));
        due(INDEX, () -> x.addEdge(0, 2, 0));
        due(ARGUMENT, () -> x.addEdge(0, 1, -1));
        due(ARGUMENT, () -> x.addEdge(0, 1, 100));
        for (int edge = 1; edge < 20; edge++) {
            int number = edge;
            due(number, () -> x.addEdge(number % 2, 1, number == 1 ? 99 : 0));
        }
        due(STATE, () -> x.addEdge(0, 1, 0));
        due(ARGUMENT, () -> x.addEdge(0, 1, 100));
        due(INDEX, () -> x.addEdge(0, 2, 100));

        begin(6);
        due(INDEX, () -> x.setBack(-1, 0, true));
        due(INDEX, () -> x.setBack(20, 0, true));
        due(INDEX, () -> x.setBack(0, -1, true));
        due(INDEX, () -> x.setBack(0, 2, true));
        due(false, () -> x.setBack(19, 1, true));
        due(false, () -> x.setBack(19, 0, false));
        due(true, () -> x.setBack(19, 1, true));
        due(true, () -> x.setBack(19, 1, false));
        due(false, () -> x.setBack(19, 1, false));
    }

    private static void conditions() {
        begin(5);
        UrgentiaZones x = two();
        x.addEdge(1, 0, 0);
        due(INDEX, () -> x.addCondition(-1, 0, '<', 0));
        due(INDEX, () -> x.addCondition(2, 0, 'x', 9));
        due(INDEX, () -> x.addCondition(0, -1, '<', 0));
        due(INDEX, () -> x.addCondition(0, 2, 'x', 9));
        due(ARGUMENT, () -> x.addCondition(0, 0, 'e', 0));
        due(ARGUMENT, () -> x.addCondition(0, 0, 'L', 0));
        due(ARGUMENT, () -> x.addCondition(0, 0, (char) 0, 0));
        due(ARGUMENT, () -> x.addCondition(0, 0, (char) 65535, 0));
        due(ARGUMENT, () -> x.addCondition(0, 0, '=', -1));
        due(ARGUMENT, () -> x.addCondition(0, 0, '=', 9));
        due(1, () -> x.addCondition(0, 0, 'g', 0));
        due(2, () -> x.addCondition(0, 1, '>', 8));
        due(1, () -> x.addCondition(1, 1, '=', 8));
        due(3, () -> x.addCondition(0, 1, '<', 8));
        due(STATE, () -> x.addCondition(0, 0, 'l', 8));
        due(ARGUMENT, () -> x.addCondition(0, 0, 'x', 8));
        due(ARGUMENT, () -> x.addCondition(0, 0, 'l', 9));
        due(2, () -> x.addCondition(1, 0, 'l', 8));
        String relations = "<l=g>";
        int[][] holds = {{3}, {3, 4}, {4}, {4, 5}, {5}};
        for (int relation = 0; relation < 5; relation++) {
            for (int quarters = 3; quarters <= 5; quarters++) {
                UrgentiaZones y = two();
                y.addCondition(0, 1, relations.charAt(relation), 1);
                y.pass(quarters);
                boolean is = false;
                for (int one : holds[relation]) {
                    is = is || one == quarters;
                }
                boolean want = is;
                due(want, () -> y.canTake(0));
            }
        }
    }

    private static void setOff(UrgentiaZones x) {
        if (x.time() == 0) {
            x.pass(3);
            x.take(0);
        }
    }

    private static void isAnew(UrgentiaZones x) {
        due(0, x::time);
        due(0, x::place);
        due(0, () -> x.clock(0));
        due(0, () -> x.clock(1));
        due(0L, x::cost);
        setOff(x);
    }

    /** The walk begins anew by each change, also by one that leaves all as it was, and by no other call. */
    private static void beginningAnew() {
        begin(2);
        UrgentiaZones x = two();
        setOff(x);
        x.addPlace(false, 0);
        isAnew(x);
        begin(3);
        x.setGreatest(2, 1, -1);
        isAnew(x);
        begin(4);
        x.addEdge(1, 0, 0);
        isAnew(x);
        begin(5);
        x.addCondition(1, 0, 'g', 0);
        isAnew(x);
        begin(6);
        x.setBack(1, 0, false);
        isAnew(x);
        begin(7);
        x.mark(1, true);
        x.mark(0, true);
        due(3, x::time);
        due(1, x::place);
        due(3, () -> x.clock(0));
        due(11L, x::cost);
    }

    private static void checkBounds(UrgentiaZones x, int state, int... bounds) {
        for (int index = 0; index < 9; index++) {
            int first = index / 3;
            int second = index % 3;
            due(bounds[index], () -> x.bound(state, first, second));
        }
    }

    private static void states() {
        UrgentiaZones x = two();
        x.setGreatest(0, 0, 3);
        x.addCondition(0, 0, '>', 1);
        x.setBack(0, 1, true);
        x.addEdge(1, 1, 0);
        x.addCondition(1, 1, 'g', 8);
        x.setBack(1, 0, true);
        begin(8);
        due(3, x::states);
        begin(9);
        due(0, () -> x.placeOf(0));
        due(1, () -> x.placeOf(1));
        due(1, () -> x.placeOf(2));
        due(INDEX, () -> x.placeOf(3));
        due(INDEX, () -> x.placeOf(-1));
        begin(10);
        checkBounds(x, 0, 1, 1, 1, 7, 1, 1, 7, 1, 1);
        checkBounds(x, 1, 1, -2, 1, 99, 1, 7, 99, -2, 1);
        checkBounds(x, 2, 1, 1, -15, 99, 1, -15, 99, 99, 1);
        due(INDEX, () -> x.bound(3, 0, 0));
        due(INDEX, () -> x.bound(-1, 0, 0));
        due(INDEX, () -> x.bound(0, -1, 0));
        due(INDEX, () -> x.bound(0, 3, 0));
        due(INDEX, () -> x.bound(0, 0, -1));
        due(INDEX, () -> x.bound(0, 0, 3));
        begin(11);
        due(NO_ELEMENT, () -> x.foundBy(0));
        due(0, () -> x.foundBy(1));
        due(1, () -> x.foundBy(2));
        due(INDEX, () -> x.foundBy(3));
        due(INDEX, () -> x.foundBy(-1));

        begin(10);
        UrgentiaZones y = new UrgentiaZones();
        y.addPlace(true, 0);
        checkBounds(y, 0, 1, 1, 1, 1, 1, 1, 1, 1, 1);
        y.addPlace(false, 0);
        y.addEdge(0, 1, 0);
        y.setGreatest(1, 1, 2);
        checkBounds(y, 1, 1, 1, 1, 5, 1, 1, 5, 1, 1);
        y.addEdge(1, 0, 0);
        y.addCondition(1, 1, '>', 1);
        y.addCondition(1, 1, '<', 1);
        begin(8);
        due(2, y::states);
        y.addEdge(1, 1, 0);
        due(2, y::states);
        widening();
    }

    /** The clock 0 is compared to 2 at most, and the clock 1 to nothing: what is above that is forgotten. */
    private static void widening() {
        UrgentiaZones x = two();
        x.addCondition(0, 0, 'g', 2);
        x.setBack(0, 1, true);
        x.addEdge(1, 0, 0);
        x.addCondition(1, 1, '>', 0);
        x.addEdge(0, 0, 0);
        x.setBack(2, 0, true);
        begin(10);
        checkBounds(x, 0, 1, 1, 1, 99, 1, 1, 99, 1, 1);
        checkBounds(x, 1, 1, -3, 1, 99, 1, 99, 99, -3, 1);
        checkBounds(x, 2, 1, 1, 1, 99, 1, 1, 99, 99, 1);
        begin(8);
        due(4, x::states);
        begin(10);
        checkBounds(x, 3, 1, -4, 0, 99, 1, 99, 99, -3, 1);
        begin(11);
        due(0, () -> x.foundBy(1));
        due(2, () -> x.foundBy(2));
        due(1, () -> x.foundBy(3));
    }

    /** A ring of ten places with a clock that ticks: one hundred states, ten for each place. */
    private static UrgentiaZones ring() {
        UrgentiaZones x = new UrgentiaZones();
        for (int place = 0; place < 10; place++) {
            x.addPlace(false, 1);
        }
        x.addEdge(0, 0, 0);
        x.addCondition(0, 0, '=', 1);
        x.setBack(0, 0, true);
        for (int place = 1; place < 10; place++) {
            x.addEdge(place - 1, place, 1);
        }
        x.addEdge(9, 9, 0);
        x.addCondition(10, 1, '=', 8);
        return x;
    }

    private static void givingUp() {
        UrgentiaZones x = ring();
        begin(8);
        due(100, x::states);
        begin(9);
        due(9, () -> x.placeOf(99));
        due(INDEX, () -> x.placeOf(100));
        begin(11);
        due(9, () -> x.foundBy(99));
        begin(30);
        due(true, x::isSound);
        x.addEdge(9, 9, 0);
        x.addCondition(11, 0, '=', 1);
        x.addCondition(11, 1, '=', 8);
        x.setBack(11, 1, true);
        begin(8);
        due(UNSUPPORTED, x::states);
        begin(9);
        due(UNSUPPORTED, () -> x.placeOf(0));
        due(UNSUPPORTED, () -> x.placeOf(-1));
        begin(10);
        due(UNSUPPORTED, () -> x.bound(0, 0, 0));
        due(UNSUPPORTED, () -> x.bound(0, 3, 0));
        begin(11);
        due(UNSUPPORTED, () -> x.foundBy(0));
        begin(12);
        due(INDEX, () -> x.reaches(10));
        due(UNSUPPORTED, () -> x.reaches(0));
        begin(29);
        due(UNSUPPORTED, x::checksum);
        begin(13);
        due(true, () -> x.reachesAnew(9));
        begin(14);
        due(9, () -> x.edgesTo(9));
        begin(15);
        due(true, () -> x.regions() > 0);
        begin(16);
        due(true, x::isSafe);
        begin(17);
        due(18, x::stuck);
        begin(27);
        due(1.0f, x::reachedShare);
        begin(30);
        due(true, x::isSound);
        x.addCondition(11, 0, '<', 1);
        begin(8);
        due(100, x::states);
    }

    private static void reaching() {
        UrgentiaZones x = two();
        x.addPlace(false, 0);
        x.addPlace(false, 0);
        x.addEdge(1, 2, 0);
        x.addEdge(0, 2, 0);
        x.addCondition(2, 0, '<', 0);
        x.addEdge(0, 3, 0);
        x.setGreatest(3, 0, 2);
        x.addCondition(3, 1, '>', 2);
        for (int place = 0; place < 4; place++) {
            int number = place;
            begin(12);
            due(place < 3, () -> x.reaches(number));
            begin(13);
            due(place < 3, () -> x.reachesAnew(number));
        }
        begin(14);
        due(0, () -> x.edgesTo(0));
        due(1, () -> x.edgesTo(1));
        due(2, () -> x.edgesTo(2));
        due(NO_ELEMENT, () -> x.edgesTo(3));
        x.addEdge(2, 0, 0);
        due(0, () -> x.edgesTo(0));
        x.setBack(3, 0, true);
        due(1, () -> x.edgesTo(3));
        begin(12);
        due(true, () -> x.reaches(3));
        due(INDEX, () -> x.reaches(-1));
        due(INDEX, () -> x.reaches(4));
        begin(13);
        due(INDEX, () -> x.reachesAnew(-1));
        due(INDEX, () -> x.reachesAnew(4));
        begin(14);
        due(INDEX, () -> x.edgesTo(-1));
        due(INDEX, () -> x.edgesTo(4));
        reachingByParts();
    }

    /** Times that no quarter tells: one part behind the point must stay below another one, run by run. */
    private static void reachingByParts() {
        UrgentiaZones x = new UrgentiaZones();
        for (int place = 0; place < 4; place++) {
            x.addPlace(false, 0);
            x.setGreatest(place, 0, 1);
        }
        for (int edge = 0; edge < 3; edge++) {
            x.addEdge(edge, edge + 1, 0);
        }
        x.setBack(0, 1, true);
        x.addCondition(0, 0, '>', 0);
        x.addCondition(1, 1, '>', 0);
        x.addCondition(1, 0, '<', 1);
        x.addCondition(2, 0, '=', 1);
        x.addCondition(2, 1, '<', 1);
        begin(13);
        due(true, () -> x.reachesAnew(3));
        begin(12);
        due(true, () -> x.reaches(3));
        x.addCondition(2, 1, '>', 0);
        due(true, () -> x.reaches(3));
        x.addCondition(1, 1, 'g', 1);
        due(false, () -> x.reaches(3));
        begin(13);
        due(false, () -> x.reachesAnew(2));
        begin(14);
        due(NO_ELEMENT, () -> x.edgesTo(2));
    }

    private static void regions() {
        begin(15);
        UrgentiaZones x = new UrgentiaZones();
        x.addPlace(true, 0);
        due(1, x::regions);
        x.addPlace(false, 0);
        due(1, x::regions);
        x.addEdge(0, 1, 0);
        due(19, x::regions);
        x.setGreatest(1, 0, 8);
        due(18, x::regions);
        x.setGreatest(1, 1, 0);
        due(2, x::regions);
        x.setGreatest(1, 0, -1);
        x.setGreatest(1, 1, 1);
        due(4, x::regions);
        x.addEdge(1, 1, 0);
        x.setBack(1, 0, true);
        due(1 + 7, x::regions);
        UrgentiaZones all = new UrgentiaZones();
        all.addPlace(false, 0);
        all.addEdge(0, 0, 0);
        all.setBack(0, 0, true);
        all.addEdge(0, 0, 0);
        all.setBack(1, 1, true);
        due(18 * 18 + 2 * 64, all::regions);
        for (int place = 1; place < 10; place++) {
            all.addPlace(false, 0);
            all.addEdge(place - 1, place, 0);
        }
        due(10 * (18 * 18 + 2 * 64), all::regions);
    }

    private static void safety() {
        begin(16);
        UrgentiaZones x = two();
        due(true, x::isSafe);
        x.addPlace(false, 0);
        x.mark(2, true);
        due(true, x::isSafe);
        x.mark(1, true);
        due(false, x::isSafe);
        x.mark(1, false);
        due(true, x::isSafe);
        x.mark(0, true);
        due(false, x::isSafe);
        x.mark(0, false);
        x.addEdge(1, 2, 0);
        due(false, x::isSafe);
        x.addCondition(1, 0, '<', 0);
        due(true, x::isSafe);
    }

    private static void stuck() {
        begin(17);
        UrgentiaZones x = new UrgentiaZones();
        x.addPlace(false, 0);
        due(18, x::stuck);
        x.addPlace(true, 0);
        x.addEdge(0, 1, 0);
        x.addCondition(0, 0, 'l', 8);
        due(1 + 17, x::stuck);
        x.addEdge(1, 0, 0);
        due(1, x::stuck);
        x.addEdge(0, 0, 0);
        due(0, x::stuck);
        x.addCondition(2, 0, 'l', 4);
        due(1, x::stuck);
        x.setGreatest(0, 0, 8);
        due(0, x::stuck);
        UrgentiaZones y = two();
        y.setGreatest(1, 0, 1);
        y.addEdge(1, 1, 0);
        y.addCondition(1, 0, '=', 1);
        due(18 - 3, y::stuck);
        y.setGreatest(1, 1, 0);
        y.setBack(0, 1, true);
        due(18 - 3 + 2, y::stuck);
    }

    private static void passing() {
        begin(19);
        UrgentiaZones none = new UrgentiaZones();
        due(ARGUMENT, () -> none.pass(0));
        due(STATE, () -> none.pass(1));
        UrgentiaZones x = two();
        x.setGreatest(1, 1, 2);
        due(ARGUMENT, () -> x.pass(0));
        due(ARGUMENT, () -> x.pass(-1));
        due(ARGUMENT, () -> x.pass(101));
        due(1, () -> x.pass(1));
        due(4, () -> x.pass(3));
        due(1, () -> x.take(0));
        due(UNSUPPORTED, () -> x.pass(5));
        due(4, x::time);
        due(8, () -> x.pass(4));
        due(UNSUPPORTED, () -> x.pass(1));
        due(ARGUMENT, () -> x.pass(101));
        x.begin();
        for (int hundred = 1; hundred < 100; hundred++) {
            int time = 100 * hundred;
            due(time, () -> x.pass(100));
        }
        due(ARITHMETIC, () -> x.pass(100));
        due(9900, x::time);
        due(9999, () -> x.pass(99));
        due(ARITHMETIC, () -> x.pass(1));
        due(19998L, x::cost);
        due(9999, () -> x.clock(1));
        begin(22);
        due(NO_ELEMENT, () -> x.leastWait(0));
        begin(18);
        due(9999, x::begin);
        due(0, x::begin);
        begin(19);
        UrgentiaZones urgent = new UrgentiaZones();
        urgent.addPlace(true, 0);
        due(UNSUPPORTED, () -> urgent.pass(1));
        due(ARGUMENT, () -> urgent.pass(0));
        urgent.addPlace(false, 0);
        due(UNSUPPORTED, () -> urgent.pass(100));
        UrgentiaZones late = two();
        late.addEdge(0, 0, 0);
        late.setBack(1, 0, true);
        late.setBack(1, 1, true);
        late.setGreatest(0, 1, 8);
        late.addEdge(0, 1, 0);
        late.addEdge(1, 0, 0);
        late.setBack(3, 1, true);
        late.take(2);
        for (int hundred = 0; hundred < 99; hundred++) {
            late.pass(100);
        }
        late.pass(97);
        late.take(3);
        due(UNSUPPORTED, () -> late.pass(33));
        due(ARITHMETIC, () -> late.pass(32));
        due(ARITHMETIC, () -> late.pass(3));
        due(9999, () -> late.pass(2));
    }

    private static void taking() {
        begin(20);
        UrgentiaZones x = two();
        x.addEdge(1, 0, 7);
        x.addCondition(1, 0, 'g', 1);
        x.addCondition(1, 1, '<', 3);
        x.setBack(1, 0, true);
        x.setGreatest(0, 1, 2);
        due(INDEX, () -> x.take(-1));
        due(INDEX, () -> x.take(2));
        due(UNSUPPORTED, () -> x.take(1));
        begin(21);
        due(INDEX, () -> x.canTake(-1));
        due(INDEX, () -> x.canTake(2));
        due(false, () -> x.canTake(1));
        due(true, () -> x.canTake(0));
        due(0, x::place);
        begin(20);
        due(1, () -> x.take(0));
        due(UNSUPPORTED, () -> x.take(0));
        due(UNSUPPORTED, () -> x.take(1));
        x.pass(3);
        due(UNSUPPORTED, () -> x.take(1));
        x.pass(6);
        due(UNSUPPORTED, () -> x.take(1));
        begin(21);
        due(false, () -> x.canTake(1));
        begin(20);
        due(9, () -> x.clock(0));
        due(5L + 27L, x::cost);
        x.begin();
        x.take(0);
        x.pass(8);
        due(0, () -> x.take(1));
        due(0, () -> x.clock(0));
        due(8, () -> x.clock(1));
        due(0, x::place);
        due(5L + 24L + 7L, x::cost);
        due(8, x::time);
        x.setBack(1, 1, true);
        x.take(0);
        x.pass(11);
        begin(21);
        due(true, () -> x.canTake(1));
        begin(20);
        due(0, () -> x.take(1));
        due(0, () -> x.clock(1));
    }

    private static void waiting() {
        begin(22);
        UrgentiaZones x = two();
        due(INDEX, () -> x.leastWait(-1));
        due(INDEX, () -> x.leastWait(1));
        due(0, () -> x.leastWait(0));
        x.addCondition(0, 0, '>', 8);
        due(33, () -> x.leastWait(0));
        x.setGreatest(0, 1, 8);
        due(NO_ELEMENT, () -> x.leastWait(0));
        x.setGreatest(0, 1, -1);
        x.pass(30);
        due(3, () -> x.leastWait(0));
        x.pass(10);
        due(0, () -> x.leastWait(0));
        x.addCondition(0, 1, '=', 8);
        due(NO_ELEMENT, () -> x.leastWait(0));
        UrgentiaZones y = two();
        y.addCondition(0, 1, 'g', 2);
        y.setGreatest(0, 1, 2);
        due(8, () -> y.leastWait(0));
        y.pass(8);
        due(0, () -> y.leastWait(0));
        y.setGreatest(1, 0, 1);
        due(NO_ELEMENT, () -> y.leastWait(0));
        y.setBack(0, 0, true);
        due(8, () -> y.leastWait(0));
        y.take(y.addEdge(0, 1, 0));
        due(NO_ELEMENT, () -> y.leastWait(0));
        UrgentiaZones urgent = new UrgentiaZones();
        urgent.addPlace(true, 0);
        urgent.addEdge(0, 0, 0);
        due(0, () -> urgent.leastWait(0));
        urgent.addCondition(0, 0, '>', 0);
        due(NO_ELEMENT, () -> urgent.leastWait(0));
        UrgentiaZones late = two();
        late.addEdge(0, 0, 0);
        late.setBack(1, 0, true);
        late.addCondition(0, 0, '=', 7);
        for (int hundred = 0; hundred < 99; hundred++) {
            late.pass(100);
        }
        late.pass(99);
        late.take(1);
        due(28, () -> late.leastWait(0));
    }

    private static void walking() {
        UrgentiaZones x = two();
        begin(24);
        due(INDEX, () -> x.clock(-1));
        due(INDEX, () -> x.clock(2));
        x.setBack(0, 1, true);
        x.pass(5);
        due(5, () -> x.clock(0));
        due(5, () -> x.clock(1));
        x.take(0);
        due(5, () -> x.clock(0));
        due(0, () -> x.clock(1));
        begin(23);
        due(1, x::place);
        begin(25);
        due(5, x::time);
        begin(26);
        due(2L * 5L + 5L, x::cost);
        x.pass(100);
        due(15L + 300L, x::cost);
        begin(25);
        due(105, x::time);
        begin(18);
        due(105, x::begin);
        due(0, x::place);
        due(0, () -> x.clock(0));
        due(0, () -> x.clock(1));
        due(0, x::time);
        due(0L, x::cost);
        begin(23);
        UrgentiaZones none = new UrgentiaZones();
        due(STATE, none::place);
        none.addPlace(true, 0);
        due(0, none::place);
    }

    private static void figures() {
        begin(27);
        UrgentiaZones x = two();
        due(1.0f, x::reachedShare);
        x.addPlace(false, 0);
        due(2.0f / 3.0f, x::reachedShare);
        x.addPlace(false, 0);
        due(0.5f, x::reachedShare);
        begin(28);
        due(0.25, x::meanDegree);
        UrgentiaZones eight = new UrgentiaZones();
        for (int place = 0; place < 8; place++) {
            eight.addPlace(false, 0);
        }
        double[] byEighths = {0.0, 0.0, 0.25, 0.5, 0.5, 0.5, 0.75, 1.0, 1.0, 1.0, 1.25};
        for (int edge = 0; edge < byEighths.length; edge++) {
            due(byEighths[edge], eight::meanDegree);
            eight.addEdge(0, 0, 0);
        }
        UrgentiaZones three = new UrgentiaZones();
        three.addPlace(false, 0);
        three.addPlace(false, 0);
        three.addPlace(false, 0);
        double[] byThirds = {0.0, 0.25, 0.75, 1.0, 1.25, 1.75};
        for (int edge = 0; edge < byThirds.length; edge++) {
            due(byThirds[edge], three::meanDegree);
            three.addEdge(0, 0, 0);
        }
        begin(29);
        UrgentiaZones y = two();
        y.setGreatest(0, 0, 3);
        y.addCondition(0, 0, '>', 1);
        y.setBack(0, 1, true);
        long sum = 0L;
        int[] bounds = {1, 1, 1, 7, 1, 1, 7, 1, 1, 1, -2, 1, 99, 1, 7, 99, -2, 1};
        for (int bound : bounds) {
            sum = 31L * sum + bound;
        }
        long want = sum;
        due(want, y::checksum);
        soundness();
    }

    /** What both searches found earlier must not be told again behind a change. */
    private static void soundness() {
        begin(30);
        UrgentiaZones x = two();
        due(true, x::isSound);
        x.pass(5);
        x.take(0);
        due(true, x::isSound);
        x.addCondition(0, 0, '<', 0);
        due(true, x::isSound);
        begin(12);
        due(false, () -> x.reaches(1));
        begin(13);
        due(false, () -> x.reachesAnew(1));
        begin(30);
        x.addEdge(0, 1, 0);
        due(true, x::isSound);
        begin(8);
        due(2, x::states);
    }

    /** A greatest value of 0 is one, and not none. */
    private static void greatestZero() {
        UrgentiaZones x = two();
        x.setGreatest(0, 0, 0);
        x.setGreatest(1, 1, 0);
        begin(10);
        checkBounds(x, 0, 1, 1, 1, 1, 1, 1, 1, 1, 1);
        checkBounds(x, 1, 1, 1, 1, 1, 1, 1, 1, 1, 1);
        begin(15);
        due(2, x::regions);
        begin(19);
        due(UNSUPPORTED, () -> x.pass(1));
        begin(22);
        due(0, () -> x.leastWait(0));
        x.addCondition(0, 1, '>', 0);
        due(NO_ELEMENT, () -> x.leastWait(0));
    }

    private static void throwingChangesNothing() {
        UrgentiaZones x = two();
        x.addEdge(1, 0, 0);
        x.addCondition(1, 0, '<', 1);
        x.pass(4);
        x.take(0);
        long sum = x.checksum();
        begin(2);
        due(ARGUMENT, () -> x.addPlace(false, 10));
        begin(3);
        due(ARGUMENT, () -> x.setGreatest(0, 0, 9));
        begin(4);
        due(ARGUMENT, () -> x.addEdge(0, 0, 100));
        begin(5);
        due(ARGUMENT, () -> x.addCondition(0, 0, 'x', 0));
        begin(6);
        due(INDEX, () -> x.setBack(2, 0, true));
        begin(7);
        due(INDEX, () -> x.mark(2, true));
        begin(19);
        due(ARGUMENT, () -> x.pass(0));
        begin(20);
        due(UNSUPPORTED, () -> x.take(1));
        begin(30);
        due(4, x::time);
        due(1, x::place);
        due(13L, x::cost);
        due(sum, x::checksum);
        due(1.0, x::meanDegree);
        due(true, x::isSound);
    }
}
