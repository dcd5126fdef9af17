import java.math.BigInteger;
import java.util.ArrayList;
import java.util.List;
import java.util.function.IntFunction;
import java.util.function.Supplier;

/**
 * Each sentence of the document that names a boundary case, told before its rows by says(): what is one too small and
 * one too large, none and as many as there may be, the last one and one more. What refused calls throw and leave as it
 * was stands in UrgentiaZonesRefusals.
 */
public final class UrgentiaZonesBoundaries {
    private static final String INDEX = "IndexOutOfBoundsException";
    private static final String ARGUMENT = "IllegalArgumentException";
    private static final String STATE = "IllegalStateException";
    private static final String UNSUPPORTED = "UnsupportedOperationException";
    private static final String ARITHMETIC = "ArithmeticException";
    private static final String NO_ELEMENT = "NoSuchElementException";
    private static final String RELATIONS = "<l=g>";

    private static String sentence = "";
    private static int row = 0;
    private static int wrong = 0;
    private static int rows = 0;

    private static void says(String words) {
        sentence = words;
        row = 0;
    }

    /** What a call answers, or the name of what it throws; a division by the machine is told apart. */
    private static Object answer(Supplier<Object> call) {
        try {
            return call.get();
        } catch (RuntimeException e) {
            return "/ by zero".equals(e.getMessage()) ? "the machine" : e.getClass().getSimpleName();
        }
    }

    private static void due(Object want, Supplier<Object> call) {
        row++;
        rows++;
        Object got = answer(call);
        if (!want.equals(got)) {
            wrong++;
            System.out.println("'" + sentence + "', row " + row + ": answered " + got + ", due is " + want);
        }
    }

    public static void main(String[] args) {
        use();
        ranges();
        counts();
        greatestValues();
        conditions();
        settingBack();
        runs();
        zones();
        order();
        sameness();
        widening();
        giving();
        notReached();
        stateNumbers();
        reaching();
        regions();
        stuck();
        walks();
        timeLimit();
        taking();
        waiting();
        beginningAnew();
        without();
        shares();
        degrees();
        checksums();
        soundness();
        System.out.println(wrong == 0 ? "all " + rows + " boundary rows hold" : wrong + " answers are not as due");
        if (wrong != 0) {
            System.exit(1);
        }
    }

    // What makes systems.

    /** So many places that are not urgent, with rate 1. */
    private static UrgentiaZones places(int count) {
        UrgentiaZones x = new UrgentiaZones();
        for (int place = 0; place < count; place++) {
            x.addPlace(false, 1);
        }
        return x;
    }

    /** A place that is not urgent, and an urgent one, the place 1. */
    private static UrgentiaZones intoUrgent() {
        UrgentiaZones x = places(1);
        x.addPlace(true, 1);
        return x;
    }

    /** Adds an edge; a part is a condition as "0<3", or a clock that is set back as "1!". */
    private static int edge(UrgentiaZones x, int from, int to, String... parts) {
        int edge = x.addEdge(from, to, 0);
        for (String part : parts) {
            int clock = part.charAt(0) - '0';
            if (part.charAt(1) == '!') {
                x.setBack(edge, clock, true);
            } else {
                x.addCondition(edge, clock, part.charAt(1), Integer.parseInt(part.substring(2)));
            }
        }
        return edge;
    }

    /** Passes so many quarters, a hundred at a time. */
    private static void pass(UrgentiaZones x, int quarters) {
        int rest = quarters;
        while (rest > 0) {
            int next = Math.min(rest, 100);
            x.pass(next);
            rest -= next;
        }
    }

    private static void dueBounds(UrgentiaZones x, int state, int... bounds) {
        for (int index = 0; index < 9; index++) {
            int first = index / 3;
            int second = index % 3;
            due(bounds[index], () -> x.bound(state, first, second));
        }
    }

    /** In each of ten places, the clock 1 is ahead of the clock 0 by 0 to 8, or by more: one hundred states. */
    private static UrgentiaZones hundred() {
        UrgentiaZones x = places(10);
        edge(x, 0, 0, "0=1", "0!");
        for (int place = 1; place < 10; place++) {
            edge(x, place - 1, place);
        }
        edge(x, 9, 9, "1=8");
        return x;
    }

    // What it is.

    private static void use() {
        says("An object is used for at most 512 calls after it has been made");
        UrgentiaZones x = hundred();
        int callsOfHundred = 10 + 3 + 9 + 2;
        for (int calls = callsOfHundred; calls < 510; calls += 2) {
            x.setGreatest(0, 0, -1);
            x.isSound();
        }
        due(100, x::states);
        due(true, x::isSound);
    }

    /** One range of an argument: what is taken is asked on a new object each time. */
    private static void range(String words, int least, int most, String refused, IntFunction<Object> call) {
        says(words);
        for (int value = least; value <= most; value++) {
            int taken = value;
            due(true, () -> call.apply(taken) != null);
        }
        due(refused, () -> call.apply(least - 1));
        due(refused, () -> call.apply(most + 1));
        due(refused, () -> call.apply(Integer.MIN_VALUE));
        due(refused, () -> call.apply(Integer.MAX_VALUE));
    }

    private static UrgentiaZones oneEdge() {
        UrgentiaZones x = places(2);
        x.addEdge(0, 1, 0);
        return x;
    }

    private static void ranges() {
        range("rate: its rate, 0 to 9", 0, 9, ARGUMENT, v -> new UrgentiaZones().addPlace(false, v));
        range("rate: its rate, 0 to 9, urgent", 0, 9, ARGUMENT, v -> new UrgentiaZones().addPlace(true, v));
        range("setGreatest: there is no such place", 0, 1, INDEX, v -> oneEdge().setGreatest(v, 0, 1));
        range("setGreatest: the clock, 0 or 1", 0, 1, INDEX, v -> oneEdge().setGreatest(0, v, 1));
        range("the value, 0 to 8, or -1 for none", -1, 8, ARGUMENT, v -> oneEdge().setGreatest(1, 1, v));
        range("addEdge: no such place, from", 0, 1, INDEX, v -> oneEdge().addEdge(v, 0, 0));
        range("addEdge: no such place, to", 0, 1, INDEX, v -> oneEdge().addEdge(0, v, 0));
        range("price: its price, 0 to 99", 0, 99, ARGUMENT, v -> oneEdge().addEdge(0, 1, v));
        range("addCondition: no such edge", 0, 0, INDEX, v -> oneEdge().addCondition(v, 0, 'l', 1));
        range("addCondition: the clock, 0 or 1", 0, 1, INDEX, v -> oneEdge().addCondition(0, v, 'l', 1));
        range("value: the number, 0 to 8", 0, 8, ARGUMENT, v -> oneEdge().addCondition(0, 0, 'l', v));
        range("setBack: no such edge", 0, 0, INDEX, v -> oneEdge().setBack(v, 0, true));
        range("setBack: the clock, 0 or 1", 0, 1, INDEX, v -> oneEdge().setBack(0, v, true));
        range("mark: no such place", 0, 1, INDEX, v -> oneEdge().mark(v, true));
        range("placeOf: no such state", 0, 1, INDEX, v -> oneEdge().placeOf(v));
        range("bound: no such state", 0, 1, INDEX, v -> oneEdge().bound(v, 0, 0));
        range("first: 0 to 2", 0, 2, INDEX, v -> oneEdge().bound(1, v, 0));
        range("second: 0 to 2", 0, 2, INDEX, v -> oneEdge().bound(1, 0, v));
        range("foundBy: no such state", 1, 1, INDEX, v -> v == 0 ? oneEdge().foundBy(-1) : oneEdge().foundBy(v));
        range("reaches: no such place", 0, 1, INDEX, v -> oneEdge().reaches(v));
        range("reachesAnew: no such place", 0, 1, INDEX, v -> oneEdge().reachesAnew(v));
        range("edgesTo: no such place", 0, 1, INDEX, v -> oneEdge().edgesTo(v));
        range("quarters: how many quarters, 1 to 100", 1, 100, ARGUMENT, v -> oneEdge().pass(v));
        range("take: no such edge", 0, 0, INDEX, v -> oneEdge().take(v));
        range("canTake: no such edge", 0, 0, INDEX, v -> oneEdge().canTake(v));
        range("leastWait: no such edge", 0, 0, INDEX, v -> oneEdge().leastWait(v));
        range("clock: the clock, 0 or 1", 0, 1, INDEX, v -> oneEdge().clock(v));
        says("relation: '<', 'l', '=', 'g' or '>'");
        for (int start = 0; start < 65536; start += 256) {
            UrgentiaZones x = oneEdge();
            for (int sign = start; sign < start + 256; sign++) {
                char relation = (char) sign;
                boolean isOne = RELATIONS.indexOf(relation) >= 0;
                due(isOne ? (Object) 1 : ARGUMENT, () -> (isOne ? oneEdge() : x).addCondition(0, 0, relation, 0));
            }
        }
    }

    private static void counts() {
        says("At most 10 places are numbered from 0");
        UrgentiaZones x = new UrgentiaZones();
        for (int place = 0; place < 10; place++) {
            int number = place;
            due(INDEX, () -> x.mark(number, false));
            due(number, () -> x.addPlace(number == 9, 9 - number));
            due(false, () -> x.mark(number, false));
        }
        due(STATE, () -> x.addPlace(false, 0));
        due(STATE, () -> x.addPlace(true, 9));
        due(INDEX, () -> x.mark(10, false));
        says("At most 20 edges are numbered from 0");
        for (int edge = 0; edge < 20; edge++) {
            int number = edge;
            due(INDEX, () -> x.setBack(number, 0, false));
            due(number, () -> x.addEdge(number % 10, 9, 99 - number));
            due(false, () -> x.setBack(number, 0, false));
        }
        due(STATE, () -> x.addEdge(0, 0, 0));
        due(STATE, () -> x.addEdge(9, 9, 99));
        due(INDEX, () -> x.setBack(20, 0, false));
        says("at most 3 conditions");
        for (int edge = 0; edge < 20; edge++) {
            int number = edge;
            for (int count = 1; count <= 3; count++) {
                due(count, () -> x.addCondition(number, 1, 'g', 0));
            }
            due(STATE, () -> x.addCondition(number, 1, 'g', 0));
        }
        says("as many places, edges and conditions as there may be: all is answered");
        due(2, x::states);
        due(2 * 18, x::regions);
        due(0, x::stuck);
        due(2.0, x::meanDegree);
        due(true, x::isSound);
        due(9, () -> x.take(0));
        due(false, () -> x.canTake(10));
        due(true, () -> x.canTake(19));
        due(9, () -> x.take(19));
        due(99L + 80L, x::cost);
        each("Adds an edge without conditions that sets no clock back");
    }

    /** A new place has no greatest value, a new edge no condition, and an edge's own are not another one's. */
    private static void each(String words) {
        says(words);
        UrgentiaZones x = places(2);
        for (int edge = 0; edge < 20; edge++) {
            int number = x.addEdge(0, 1, 0);
            due(1, () -> x.addCondition(number, 0, '=', number % 9));
            due(false, () -> x.setBack(number, 0, true));
            due(false, () -> x.setBack(number, 1, false));
        }
        for (int quarter = 0; quarter <= 32; quarter += 4) {
            int number = quarter / 4;
            for (int edge = 0; edge < 20; edge++) {
                int other = edge;
                due(other % 9 == number, () -> x.canTake(other));
            }
            x.pass(4);
        }
    }

    // Terms: places.

    private static void greatestValues() {
        for (int clock = 0; clock < 2; clock++) {
            for (int value = 0; value <= 8; value++) {
                greatestOfOwn(clock, value);
                greatestOfNext(clock, value, false);
                greatestOfNext(clock, value, true);
            }
        }
        says("may have a greatest value for each clock: -1 for none; returns the value before, or -1");
        UrgentiaZones x = places(1);
        for (int clock = 0; clock < 2; clock++) {
            int own = clock;
            due(-1, () -> x.setGreatest(0, own, 0));
            due(0, () -> x.setGreatest(0, own, 8));
            due(8, () -> x.setGreatest(0, own, -1));
            due(-1, () -> x.setGreatest(0, own, -1));
            due(99, () -> x.bound(0, own + 1, 0));
            due(18, x::regions);
            due(100, () -> x.pass(100));
        }
        says("the greatest values of one place and clock are not another one's");
        UrgentiaZones y = places(10);
        for (int place = 0; place < 10; place++) {
            int number = place;
            due(-1, () -> y.setGreatest(number, 0, number % 9));
            due(-1, () -> y.setGreatest(number, 1, (number + 4) % 9));
        }
        for (int place = 0; place < 10; place++) {
            int number = place;
            due(number % 9, () -> y.setGreatest(number, 0, -1));
            due((number + 4) % 9, () -> y.setGreatest(number, 1, -1));
        }
    }

    private static void greatestOfOwn(int clock, int value) {
        says("as long as no clock is above its greatest value: " + value + " of the clock " + clock);
        UrgentiaZones x = places(1);
        x.setGreatest(0, clock, value);
        dueBounds(x, 0, 1, 1, 1, 2 * value + 1, 1, 1, 2 * value + 1, 1, 1);
        due(2 * value + 1, x::regions);
        due(true, () -> x.reaches(0));
        due(UNSUPPORTED, () -> x.pass(4 * value + 1));
        due(UNSUPPORTED, () -> x.pass(100));
        pass(x, 4 * value);
        due(4 * value, x::time);
        due(UNSUPPORTED, () -> x.pass(1));
    }

    private static void greatestOfNext(int clock, int value, boolean isUrgent) {
        says("no clock is above its greatest value in the place to which it leads: " + value + " of " + clock
            + (isUrgent ? ", urgent" : ""));
        UrgentiaZones x = isUrgent ? intoUrgent() : places(2);
        x.setGreatest(1, clock, value);
        int plain = edge(x, 0, 1);
        dueBounds(x, 1, 1, 1, 1, 2 * value + 1, 1, 1, 2 * value + 1, 1, 1);
        due(2, x::states);
        due(18 + 2 * value + 1, x::regions);
        int back = edge(x, 0, 1, clock + "!");
        pass(x, 4 * value);
        due(true, () -> x.canTake(plain));
        due(0, () -> x.leastWait(plain));
        x.pass(1);
        due(false, () -> x.canTake(plain));
        due(UNSUPPORTED, () -> x.take(plain));
        due(NO_ELEMENT, () -> x.leastWait(plain));
        says("behind setting clocks back");
        due(true, () -> x.canTake(back));
        due(1, () -> x.take(back));
        due(0, () -> x.clock(clock));
        due(4 * value + 1, () -> x.clock(1 - clock));
        UrgentiaZones other = isUrgent ? intoUrgent() : places(2);
        other.setGreatest(1, clock, value);
        int wrongBack = edge(other, 0, 1, (1 - clock) + "!");
        pass(other, 4 * value + 1);
        due(false, () -> other.canTake(wrongBack));
        UrgentiaZones never = isUrgent ? intoUrgent() : places(2);
        never.setGreatest(1, clock, value);
        edge(never, 0, 1, clock + ">" + value);
        due(1, never::states);
        due(false, () -> never.reaches(1));
        due(false, () -> never.reachesAnew(1));
        never.setBack(0, clock, true);
        due(2, never::states);
        due(true, () -> never.reachesAnew(1));
    }

    // Terms: conditions.

    private static void conditions() {
        for (int index = 0; index < 5; index++) {
            for (int number = 0; number <= 8; number++) {
                for (int clock = 0; clock < 2; clock++) {
                    conditionInWalks(index, number, clock);
                    conditionInStates(index, number, clock);
                    conditionInRegions(index, number, clock);
                }
            }
        }
        says("a condition compares the one clock, and not the other one");
        UrgentiaZones x = places(1);
        int back = edge(x, 0, 0, "1!");
        int first = edge(x, 0, 0, "0=2", "1=1");
        int second = edge(x, 0, 0, "0=1", "1=2");
        x.pass(4);
        x.take(back);
        x.pass(4);
        due(true, () -> x.canTake(first));
        due(false, () -> x.canTake(second));
        says("if its conditions hold: each one of three");
        String[] three = {"0g1", "0l3", "1=2"};
        for (int turn = 0; turn < 3; turn++) {
            UrgentiaZones y = places(1);
            int edge = edge(y, 0, 0, three[turn], three[(turn + 1) % 3], three[(turn + 2) % 3]);
            due(8, () -> y.leastWait(edge));
            for (int quarter = 0; quarter <= 13; quarter++) {
                int time = quarter;
                due(time == 8, () -> y.canTake(edge));
                y.pass(1);
            }
            UrgentiaZones never = places(2);
            String[] holding = {"0g0", "1g0", "0l8"};
            holding[turn] = "1<0";
            edge(never, 0, 1, holding);
            due(1, never::states);
            due(18, never::regions);
        }
        says("two conditions that meet in one value, or in none");
        UrgentiaZones z = intoUrgent();
        edge(z, 0, 1, "0l3", "1g3");
        dueBounds(z, 1, 1, -5, -5, 7, 1, 1, 7, 1, 1);
        due(19, z::regions);
        z.addCondition(0, 0, '<', 3);
        due(1, z::states);
        due(18, z::regions);
        due(NO_ELEMENT, () -> z.leastWait(0));
    }

    /** The first quarter of so many at which a condition holds, and the last one, or -1. */
    private static int firstQuarter(int index, int number) {
        int[] first = {number == 0 ? -1 : 0, 0, 4 * number, 4 * number, 4 * number + 1};
        return first[index];
    }

    private static boolean holdsAt(int index, int number, int quarter) {
        boolean[] holds = {quarter < 4 * number, quarter <= 4 * number, quarter == 4 * number, quarter >= 4 * number,
            quarter > 4 * number};
        return holds[index];
    }

    private static void conditionInWalks(int index, int number, int clock) {
        String condition = "" + clock + RELATIONS.charAt(index) + number;
        says("'<' less, 'l' not more, '=' the same, 'g' not less, '>' greater: in walks, " + condition);
        for (int quarter = Math.max(0, 4 * number - 1); quarter <= 4 * number + 1; quarter++) {
            UrgentiaZones x = places(2);
            edge(x, 0, 1, condition);
            int first = firstQuarter(index, number);
            due(first < 0 ? (Object) NO_ELEMENT : first, () -> x.leastWait(0));
            pass(x, quarter);
            boolean holds = holdsAt(index, number, quarter);
            due(holds, () -> x.canTake(0));
            Object wait = holds ? (Object) 0 : first > quarter ? (Object) (first - quarter) : NO_ELEMENT;
            due(wait, () -> x.leastWait(0));
            due(holds ? (Object) 1 : UNSUPPORTED, () -> x.take(0));
        }
    }

    private static void conditionInStates(int index, int number, int clock) {
        String condition = "" + clock + RELATIONS.charAt(index) + number;
        says("2 times the whole number, plus 1 for 'not more than', and none as 99: " + condition);
        UrgentiaZones x = intoUrgent();
        edge(x, 0, 1, condition);
        boolean isNever = index == 0 && number == 0;
        due(isNever ? 1 : 2, x::states);
        due(!isNever, () -> x.reaches(1));
        due(!isNever, () -> x.reachesAnew(1));
        due(isNever ? (Object) NO_ELEMENT : 1, () -> x.edgesTo(1));
        if (!isNever) {
            int most = new int[] {2 * number, 2 * number + 1, 2 * number + 1, 99, 99}[index];
            int least = new int[] {1, 1, 1 - 2 * number, 1 - 2 * number, -2 * number}[index];
            dueBounds(x, 1, 1, least, least, most, 1, 1, most, 1, 1);
        }
    }

    /** Of the 18 regions of equal clocks, by rising values, those from one to another open the edge. */
    private static void conditionInRegions(int index, int number, int clock) {
        String condition = "" + clock + RELATIONS.charAt(index) + number;
        says("told apart by whole numbers and what is between two of them: " + condition);
        int open = new int[] {2 * number, 2 * number + 1, 1, 18 - 2 * number, 17 - 2 * number}[index];
        int behind = new int[] {18 - 2 * number, 17 - 2 * number, 17 - 2 * number, 0, 0}[index];
        UrgentiaZones x = intoUrgent();
        edge(x, 0, 1, condition);
        due(18 + open, x::regions);
        due(open + behind, x::stuck);
    }

    private static void settingBack() {
        int[][] bounds = {
            {1, -3, -3, 5, 1, 1, 5, 1, 1}, {1, 1, -3, 1, 1, -3, 5, 5, 1},
            {1, -3, 1, 5, 1, 5, 1, -3, 1}, {1, 1, 1, 1, 1, 1, 1, 1, 1},
        };
        for (int backs = 0; backs < 4; backs++) {
            says("sets clocks back to 0 as told, and is compared before: " + backs);
            boolean isFirst = backs % 2 == 1;
            boolean isSecond = backs / 2 == 1;
            UrgentiaZones x = intoUrgent();
            edge(x, 0, 1, "0=2", "1=2");
            due(false, () -> x.setBack(0, 0, isFirst));
            due(false, () -> x.setBack(0, 1, isSecond));
            dueBounds(x, 1, bounds[backs]);
            due(19, x::regions);
            x.pass(8);
            due(1, () -> x.take(0));
            due(isFirst ? 0 : 8, () -> x.clock(0));
            due(isSecond ? 0 : 8, () -> x.clock(1));
            due(8, x::time);
            due(isFirst, () -> x.setBack(0, 0, false));
            due(isSecond, () -> x.setBack(0, 1, false));
            dueBounds(x, 1, bounds[0]);
            due(false, () -> x.setBack(0, 0, true));
            due(true, () -> x.setBack(0, 0, true));
            due(false, () -> x.setBack(0, 1, false));
        }
        says("setBack: the clocks of one edge are not another one's");
        UrgentiaZones y = places(1);
        for (int edge = 0; edge < 20; edge++) {
            int number = y.addEdge(0, 0, 0);
            y.setBack(number, number % 2, number % 3 == 0);
        }
        for (int edge = 0; edge < 20; edge++) {
            int number = edge;
            due(number % 3 == 0, () -> y.setBack(number, number % 2, false));
            due(false, () -> y.setBack(number, 1 - number % 2, false));
        }
    }

    // Terms: runs.

    private static void runs() {
        says("A run begins in the place 0, with both clocks 0");
        UrgentiaZones x = places(10);
        due(0, x::place);
        due(0, () -> x.clock(0));
        due(0, () -> x.clock(1));
        due(0, () -> x.placeOf(0));
        due(0, () -> x.edgesTo(0));
        says("by time in a place that is not urgent: not in an urgent one");
        UrgentiaZones urgent = new UrgentiaZones();
        urgent.addPlace(true, 9);
        urgent.addPlace(true, 9);
        dueBounds(urgent, 0, 1, 1, 1, 1, 1, 1, 1, 1, 1);
        due(1, urgent::regions);
        due(1, urgent::stuck);
        due(UNSUPPORTED, () -> urgent.pass(1));
        due(UNSUPPORTED, () -> urgent.pass(100));
        edge(urgent, 0, 1, "0l0", "1=0");
        edge(urgent, 1, 0, "0>0");
        due(2, urgent::regions);
        due(1, urgent::stuck);
        due(1, () -> urgent.take(0));
        due(UNSUPPORTED, () -> urgent.pass(1));
        due(NO_ELEMENT, () -> urgent.leastWait(1));
        due(0L, urgent::cost);
        says("no clock is above its greatest value: neither one");
        UrgentiaZones y = places(1);
        y.setGreatest(0, 0, 3);
        y.setGreatest(0, 1, 5);
        int back = edge(y, 0, 0, "0!");
        due(UNSUPPORTED, () -> y.pass(13));
        due(12, () -> y.pass(12));
        due(0, () -> y.take(back));
        due(UNSUPPORTED, () -> y.pass(9));
        due(20, () -> y.pass(8));
        due(UNSUPPORTED, () -> y.pass(1));
        says("0 is never above a greatest value");
        UrgentiaZones zero = places(2);
        for (int place = 0; place < 2; place++) {
            zero.setGreatest(place, 0, 0);
            zero.setGreatest(place, 1, 0);
        }
        edge(zero, 0, 1);
        due(2, zero::states);
        dueBounds(zero, 0, 1, 1, 1, 1, 1, 1, 1, 1, 1);
        dueBounds(zero, 1, 1, 1, 1, 1, 1, 1, 1, 1, 1);
        due(2, zero::regions);
        due(1, () -> zero.take(0));
        due(true, zero::isSound);
    }

    // Terms: zones and states.

    private static void zones() {
        says("The bounds are kept as narrow as they can be for the same set");
        UrgentiaZones x = places(2);
        x.setGreatest(1, 1, 2);
        edge(x, 0, 1, "0>1", "0l3", "1!");
        dueBounds(x, 0, 1, 1, 1, 99, 1, 1, 99, 1, 1);
        dueBounds(x, 1, 1, -2, 1, 11, 1, 7, 5, -2, 1);
        says("1 for the clock 0, and 2 for the clock 1");
        UrgentiaZones y = places(2);
        y.setGreatest(1, 0, 2);
        edge(y, 0, 1, "1>1", "1l3", "0!");
        dueBounds(y, 1, 1, 1, -2, 5, 1, -2, 11, 7, 1);
        says("as narrow as they can be: by two bounds with the number 0, where none of both clocks was before");
        UrgentiaZones unbound = intoUrgent();
        edge(unbound, 0, 0, "1!");
        edge(unbound, 0, 1, "0l3", "1g1");
        due(4, unbound::states);
        dueBounds(unbound, 1, 1, 1, 1, 99, 1, 99, 99, 1, 1);
        dueBounds(unbound, 2, 1, -1, -1, 7, 1, 1, 7, 1, 1);
        dueBounds(unbound, 3, 1, -1, -1, 7, 1, 5, 7, 1, 1);
        says("if there are any: none of the one clock, where the other one has no bounds");
        for (int clock = 0; clock < 2; clock++) {
            UrgentiaZones apart = intoUrgent();
            edge(apart, 0, 0, clock + "!");
            edge(apart, 0, 1, clock + "<1", clock + ">1");
            due(2, apart::states);
            due(false, () -> apart.reaches(1));
            due(true, apart::isSound);
        }
        says("a zone that is not empty: if there are any");
        UrgentiaZones z = places(2);
        z.setGreatest(1, 0, 3);
        edge(z, 0, 1, "0>3");
        edge(z, 0, 1, "1g4");
        edge(z, 0, 1, "0<0");
        edge(z, 0, 1, "0<2", "1>2");
        edge(z, 0, 1, "0=2", "1=3");
        edge(z, 1, 1);
        due(1, z::states);
        due(false, () -> z.reaches(1));
        edge(z, 0, 1, "0g3");
        due(2, z::states);
        due(6, () -> z.foundBy(1));
        dueBounds(z, 1, 1, -5, -5, 7, 1, 1, 7, 1, 1);
    }

    private static void order() {
        says("for each state by rising numbers, and each edge from its place by rising numbers");
        UrgentiaZones x = places(5);
        int[][] edges = {{0, 2}, {0, 1}, {1, 4}, {2, 3}, {2, 0}, {3, 4}};
        for (int[] ends : edges) {
            x.addEdge(ends[0], ends[1], 0);
        }
        int[] places = {0, 2, 1, 3, 4};
        int[] found = {-1, 0, 1, 3, 2};
        due(5, x::states);
        for (int state = 0; state < 5; state++) {
            int number = state;
            due(places[number], () -> x.placeOf(number));
            due(number == 0 ? (Object) NO_ELEMENT : found[number], () -> x.foundBy(number));
        }
        due(INDEX, () -> x.foundBy(5));
        due(INDEX, () -> x.placeOf(5));
        due(INDEX, () -> x.bound(5, 0, 0));
        says("foundBy: the edges 0 and 19");
        UrgentiaZones y = intoUrgent();
        for (int edge = 0; edge < 19; edge++) {
            edge(y, 0, 1, edge == 0 ? "0>8" : "0<0");
        }
        edge(y, 0, 1, "0g8");
        due(3, y::states);
        due(0, () -> y.foundBy(1));
        due(19, () -> y.foundBy(2));
    }

    private static void sameness() {
        says("a new state if no state has the same place and a zone in which all of its values are");
        int[] none = {};
        dueStates("the same zone", new String[] {"0g1", "1g1"}, 0);
        dueStates("a narrower one", new String[] {"0g1", "0>1"}, 0);
        dueStates("a wider one", new String[] {"0>1", "0g1"}, 0, 1);
        dueStates("a wider one, and both again", new String[] {"0>1", "0g1", "0>1", "0g1"}, 0, 1);
        dueStates("one that only meets it", new String[] {"0l1", "0g1"}, 0, 1);
        dueStates("one that is within two together", new String[] {"0l2", "0g1", "0g0"}, 0, 1, 2);
        dueStates("less than, and not more than", new String[] {"0<1", "0l1"}, 0, 1);
        dueStates("not more than, and less than", new String[] {"0l1", "0<1"}, 0);
        dueStates("none that is taken", new String[] {"0<0", "1<0"}, none);
        says("the same zone in another place is a state");
        UrgentiaZones x = places(10);
        for (int place = 1; place < 10; place++) {
            edge(x, 0, place);
            edge(x, place, 0);
        }
        due(10, x::states);
        says("the state 0 is one that there is");
        UrgentiaZones y = places(1);
        edge(y, 0, 0);
        edge(y, 0, 0, "0!", "1!");
        edge(y, 0, 0, "0>3");
        due(1, y::states);
    }

    /** Edges from the place 0 to an urgent place, each with one condition, and those by which states are found. */
    private static void dueStates(String words, String[] conditions, int... edges) {
        says("no state has the same place and a zone in which all of its values are: " + words);
        UrgentiaZones x = intoUrgent();
        for (String condition : conditions) {
            edge(x, 0, 1, condition);
        }
        due(1 + edges.length, x::states);
        for (int state = 1; state <= edges.length; state++) {
            int number = state;
            due(edges[number - 1], () -> x.foundBy(number));
        }
    }

    // Terms: states are made wider.

    /** A clock ticks and is set back at 1; the other one is ahead of it by 0, 1, 2 and so on. */
    private static UrgentiaZones ticking(int clock) {
        UrgentiaZones x = places(2);
        edge(x, 0, 0, (1 - clock) + "=1", (1 - clock) + "!");
        return x;
    }

    private static void widening() {
        for (int clock = 0; clock < 2; clock++) {
            for (int number = 0; number <= 8; number++) {
                for (int index = 0; index < 5; index++) {
                    UrgentiaZones byEdge = ticking(clock);
                    edge(byEdge, 1, 1, "" + clock + RELATIONS.charAt(index) + number);
                    dueWidened(byEdge, clock, number, "by a condition " + RELATIONS.charAt(index));
                }
                UrgentiaZones byPlace = ticking(clock);
                byPlace.setGreatest(1, clock, number);
                dueWidened(byPlace, clock, number, "by a greatest value");
            }
            UrgentiaZones without = ticking(clock);
            dueWidened(without, clock, 0, "0 without any");
            without.setGreatest(1, 1 - clock, 8);
            dueWidened(without, clock, 0, "0 without any, where the other clock has one");
            dueGreatest(clock);
        }
        says("a bound that is less than the next number is above this number");
        UrgentiaZones x = places(2);
        edge(x, 0, 1, "0<1", "1!");
        edge(x, 1, 1, "1=1", "1!");
        due(3, x::states);
        dueBounds(x, 1, 1, 1, 1, 99, 1, 2, 99, 1, 1);
        dueBounds(x, 2, 1, -1, 1, 99, 1, 99, 99, -1, 1);
    }

    /** The greatest of many numbers: of the last edge's third condition, and of the last place. */
    private static void dueGreatest(int clock) {
        UrgentiaZones x = ticking(clock);
        for (int place = 2; place < 10; place++) {
            x.addPlace(true, 0);
        }
        for (int edge = 1; edge < 20; edge++) {
            edge(x, 9, 9, clock + "l1", clock + "l1");
        }
        dueWidened(x, clock, 1, "by the greatest number of nineteen edges");
        x.addCondition(19, 1 - clock, 'l', 1);
        dueWidened(x, clock, 1, "by the greatest number of full edges");
        x.addCondition(18, clock, 'l', 4);
        dueWidened(x, clock, 4, "by the greatest number, the last one of an edge");
        x.setGreatest(9, clock, 3);
        dueWidened(x, clock, 4, "by the greatest number, of which one is of a place");
        x.setGreatest(9, clock, 6);
        dueWidened(x, clock, 6, "by the greatest number, that of the last place");
        x.setGreatest(8, clock, 5);
        dueWidened(x, clock, 6, "by the greatest number of two places");
        x.setGreatest(9, clock, -1);
        dueWidened(x, clock, 5, "by the greatest number that is left");
        x.setGreatest(8, clock, -1);
        dueWidened(x, clock, 4, "by the greatest number of the edges again");
    }

    private static void dueWidened(UrgentiaZones x, int clock, int number, String words) {
        says("with the greatest number to which a clock is compared: " + words + ", " + clock + " with " + number);
        int row = clock + 1;
        int other = 2 - clock;
        due(number + 2, x::states);
        due(2 * number + 1, () -> x.bound(number, row, other));
        due(1 - 2 * number, () -> x.bound(number, other, row));
        due(1 - 2 * number, () -> x.bound(number, 0, row));
        due(99, () -> x.bound(number + 1, row, other));
        due(-2 * number, () -> x.bound(number + 1, other, row));
        due(-2 * number, () -> x.bound(number + 1, 0, row));
        due(99, () -> x.bound(number + 1, row, 0));
        due(1, () -> x.bound(number + 1, 0, other));
        due(1, () -> x.bound(number + 1, row, row));
    }

    // Terms: states are given up.

    private static void giving() {
        says("At most 100 states are found");
        UrgentiaZones x = hundred();
        due(100, x::states);
        due(9, () -> x.placeOf(99));
        due(9, () -> x.foundBy(99));
        due(99, () -> x.bound(99, 2, 1));
        due(INDEX, () -> x.placeOf(100));
        due(INDEX, () -> x.bound(100, 0, 0));
        due(INDEX, () -> x.foundBy(100));
        due(true, () -> x.reaches(9));
        due(990, x::regions);
        due(true, x::isSound);
        says("one more that is within one that there is does not give it up");
        edge(x, 9, 9);
        edge(x, 9, 0, "0!", "1!");
        due(100, x::states);
        says("it is given up when a further one would be");
        int further = edge(x, 9, 9, "0=1", "1=8", "1!");
        dueGivenUp(x);
        due(1007, x::regions);
        due(0, x::stuck);
        says("what was given up is found again where there are fewer");
        x.addCondition(further, 0, '<', 1);
        due(100, x::states);
        due(9, () -> x.placeOf(99));
        due(true, () -> x.reaches(9));
        due(990, x::regions);
        says("it is given up by many more, too");
        UrgentiaZones y = hundred();
        edge(y, 9, 0, "1=3", "1!");
        edge(y, 4, 0, "1=5", "0!");
        dueGivenUp(y);
        y.setGreatest(0, 0, 0);
        y.setGreatest(0, 1, 0);
        due(10, y::states);
    }

    private static void dueGivenUp(UrgentiaZones x) {
        says("Where it is given up, calls by the states throw also for what was found");
        due(UNSUPPORTED, x::states);
        due(UNSUPPORTED, () -> x.placeOf(0));
        due(UNSUPPORTED, () -> x.placeOf(99));
        due(UNSUPPORTED, () -> x.bound(0, 0, 0));
        due(UNSUPPORTED, () -> x.foundBy(1));
        due(UNSUPPORTED, () -> x.reaches(0));
        due(UNSUPPORTED, () -> x.reaches(9));
        due(UNSUPPORTED, x::checksum);
        says("and those by the regions do not");
        due(true, () -> x.reachesAnew(9));
        due(9, () -> x.edgesTo(9));
        due(true, () -> x.regions() > 0);
        due(true, x::isSafe);
        due(1.0f, x::reachedShare);
        due(false, () -> x.mark(9, true));
        due(false, x::isSafe);
        due(true, () -> x.mark(9, false));
        says("each place is reached by the states if it is by the regions, unless it is given up");
        due(true, x::isSound);
        says("walks and figures go on where it is given up");
        due(4, () -> x.pass(4));
        due(0, () -> x.take(0));
        due(0, () -> x.clock(0));
        due(4, x::begin);
        due(true, () -> x.meanDegree() > 1.0);
    }

    /** One hundred states in nine places: ten in each, and ten more zones in the place 8, each wider than the last. */
    private static UrgentiaZones hundredOfNine() {
        UrgentiaZones x = places(10);
        edge(x, 0, 0, "0=1", "0!");
        for (int place = 1; place < 9; place++) {
            edge(x, place - 1, place);
        }
        for (int number = 1; number <= 5; number++) {
            edge(x, 8, 8, "0<" + number, "1!");
            edge(x, 8, 8, "0l" + number, "1!");
        }
        edge(x, 8, 9, "1=8", "0<0");
        return x;
    }

    private static void notReached() {
        says("At most 100 states: as many, and a place that is not reached");
        UrgentiaZones x = hundredOfNine();
        due(100, x::states);
        due(8, () -> x.placeOf(99));
        due(true, () -> x.reaches(8));
        due(false, () -> x.reaches(9));
        due(false, () -> x.reachesAnew(9));
        due(NO_ELEMENT, () -> x.edgesTo(9));
        due(0.9f, x::reachedShare);
        due(false, () -> x.mark(9, true));
        due(true, x::isSafe);
        due(true, x::isSound);
        says("what was reached before a change is not reached by that");
        UrgentiaZones y = places(3);
        edge(y, 0, 1);
        edge(y, 1, 2);
        due(true, () -> y.reaches(2));
        due(true, () -> y.reachesAnew(2));
        due(2, () -> y.edgesTo(2));
        y.addCondition(1, 0, '<', 0);
        due(false, () -> y.reaches(2));
        due(false, () -> y.reachesAnew(2));
        due(NO_ELEMENT, () -> y.edgesTo(2));
        due(true, () -> y.reaches(1));
        y.setGreatest(1, 0, 0);
        y.addCondition(0, 0, '>', 0);
        due(false, () -> y.reaches(1));
        due(INDEX, () -> y.placeOf(1));
        due(NO_ELEMENT, () -> y.edgesTo(1));
        due(1.0f / 3.0f, y::reachedShare);
    }

    private static void stateNumbers() {
        says("if it is the state 0: also where an edge leads back to it");
        UrgentiaZones x = places(1);
        due(1, x::states);
        due(NO_ELEMENT, () -> x.foundBy(0));
        due(INDEX, () -> x.foundBy(1));
        due(INDEX, () -> x.placeOf(1));
        due(INDEX, () -> x.bound(1, 0, 0));
        edge(x, 0, 0, "0!", "1!");
        due(NO_ELEMENT, () -> x.foundBy(0));
        due(INDEX, () -> x.foundBy(-1));
        due(INDEX, () -> x.foundBy(1));
    }

    // What is reached.

    private static void reaching() {
        says("A place is reached if some run comes to it: without edges, the place 0 alone");
        UrgentiaZones x = places(10);
        for (int place = 0; place < 10; place++) {
            int number = place;
            due(number == 0, () -> x.reaches(number));
            due(number == 0, () -> x.reachesAnew(number));
            due(number == 0 ? (Object) 0 : NO_ELEMENT, () -> x.edgesTo(number));
        }
        says("the least number of edges by which a place is reached");
        for (int place = 1; place < 10; place++) {
            edge(x, place - 1, place);
        }
        for (int place = 0; place < 10; place++) {
            int number = place;
            due(number, () -> x.edgesTo(number));
            due(true, () -> x.reaches(number));
        }
        says("0 for the place 0: also where edges lead back to it");
        edge(x, 9, 0);
        edge(x, 0, 0, "0!");
        due(0, () -> x.edgesTo(0));
        says("the least number: the last edge makes it shorter");
        int shorter = edge(x, 0, 9);
        due(1, () -> x.edgesTo(9));
        due(8, () -> x.edgesTo(8));
        x.addCondition(shorter, 0, '<', 0);
        due(9, () -> x.edgesTo(9));
        says("the least number, where an edge must be taken first, or often");
        UrgentiaZones y = places(2);
        edge(y, 0, 1, "0g2", "1l1");
        due(NO_ELEMENT, () -> y.edgesTo(1));
        due(false, () -> y.reaches(1));
        due(false, () -> y.reachesAnew(1));
        edge(y, 0, 0, "1!");
        due(2, () -> y.edgesTo(1));
        UrgentiaZones ticks = ticking(1);
        edge(ticks, 0, 1, "1=8", "0=0");
        due(9, () -> ticks.edgesTo(1));
        due(true, () -> ticks.reaches(1));
        safety();
    }

    private static void safety() {
        says("isSafe: whether no bad place is reached");
        UrgentiaZones x = places(10);
        edge(x, 0, 9, "0>8");
        due(true, x::isSafe);
        for (int place = 1; place < 9; place++) {
            x.mark(place, true);
        }
        due(true, x::isSafe);
        due(false, () -> x.mark(9, true));
        due(false, x::isSafe);
        due(true, () -> x.mark(9, false));
        due(true, x::isSafe);
        due(false, () -> x.mark(0, true));
        due(false, x::isSafe);
        due(true, () -> x.mark(0, true));
        due(true, () -> x.mark(0, false));
        due(true, x::isSafe);
    }

    // Regions.

    private static void regions() {
        says("those above 8 are alike");
        UrgentiaZones x = places(1);
        due(18, x::regions);
        edge(x, 0, 0, "0>8", "1!");
        due(18 + 17, x::regions);
        edge(x, 0, 0, "1>8", "0!");
        due(18 + 17 + 17, x::regions);
        says("the parts behind the point compare alike: less, the same, or greater");
        UrgentiaZones y = places(1);
        y.setGreatest(0, 0, 1);
        y.setGreatest(0, 1, 1);
        due(3, y::regions);
        edge(y, 0, 0, "1!");
        due(3 + 4, y::regions);
        edge(y, 0, 0, "0!");
        due(3 + 4 + 4, y::regions);
        says("if both clocks are between whole numbers up to 8: all regions of all places");
        UrgentiaZones all = places(10);
        edge(all, 0, 0, "0!");
        edge(all, 0, 0, "1!");
        due(452, all::regions);
        for (int place = 1; place < 10; place++) {
            edge(all, place - 1, place);
        }
        due(4520, all::regions);
        due(452, all::stuck);
        edge(all, 9, 9);
        due(0, all::stuck);
        says("what is found does not hang on what was found before");
        all.setGreatest(0, 0, 0);
        all.setGreatest(0, 1, 0);
        due(1 + 9 * 18, all::regions);
        all.setGreatest(1, 0, 0);
        due(2 + 8 * 18, all::regions);
    }

    private static void stuck() {
        says("neither an edge can be taken, nor time pass to where one can: without edges");
        UrgentiaZones x = places(1);
        due(18, x::stuck);
        x.setGreatest(0, 0, 3);
        due(7, x::stuck);
        edge(x, 0, 0, "1=3");
        due(0, x::stuck);
        x.setGreatest(0, 0, 2);
        due(5, x::stuck);
        x.setGreatest(0, 0, 4);
        due(2, x::stuck);
        says("A region from which no edge can ever be taken is stuck, also where time can pass on for ever");
        x.setGreatest(0, 0, -1);
        due(18 - 7, x::stuck);
        edge(x, 0, 0, "1l8");
        due(1, x::stuck);
        edge(x, 0, 0, "0g8");
        due(0, x::stuck);
        says("stuck: an edge that leads above a greatest value cannot be taken");
        UrgentiaZones y = places(2);
        edge(y, 0, 1);
        edge(y, 1, 1);
        due(0, y::stuck);
        y.setGreatest(1, 1, 5);
        due(18 - 11, y::stuck);
        y.setBack(0, 1, true);
        due(0, y::stuck);
        says("stuck: where a greatest value ends the time, in each place");
        UrgentiaZones z = places(2);
        edge(z, 0, 1);
        z.setGreatest(1, 0, 3);
        due(18 - 7 + 7, z::stuck);
        edge(z, 0, 0);
        due(7, z::stuck);
        edge(z, 1, 0, "1=3");
        due(0, z::stuck);
        z.addCondition(2, 0, '<', 3);
        due(7, z::stuck);
        stuckByTime();
    }

    /** Time leads out of one region into another one that was found earlier, where an edge can be taken. */
    private static void stuckByTime() {
        says("nor time pass to where one can: to where it could be before");
        UrgentiaZones x = places(1);
        edge(x, 0, 0, "0>8", "1>8", "1!");
        due(18 + 17, x::regions);
        due(0, x::stuck);
        says("stuck regions do not hang on what was found before");
        UrgentiaZones y = places(2);
        edge(y, 0, 1);
        edge(y, 0, 1, "1!");
        int loop = edge(y, 1, 1);
        due(18 + 235, y::regions);
        due(0, y::stuck);
        y.addCondition(loop, 0, '<', 0);
        due(18 + 235, y::regions);
        due(235, y::stuck);
        y.setGreatest(1, 0, 0);
        due(18 + 1, y::regions);
    }

    // Walks.

    private static void walks() {
        says("the sum of the rates of the places times the quarters passed in them, and of the prices");
        for (int rate = 0; rate <= 9; rate++) {
            UrgentiaZones x = new UrgentiaZones();
            x.addPlace(false, rate);
            x.addPlace(false, 9 - rate);
            x.addEdge(0, 1, 11 * rate);
            x.addEdge(1, 0, 99 - 11 * rate);
            x.pass(1);
            due((long) rate, x::cost);
            x.pass(100);
            due(101L * rate, x::cost);
            x.take(0);
            due(112L * rate, x::cost);
            x.pass(7);
            long there = 112L * rate + 7L * (9 - rate);
            due(there, x::cost);
            x.take(1);
            due(there + 99L - 11L * rate, x::cost);
            due(108, x::time);
            due(108, x::begin);
            due(0L, x::cost);
            due(0, x::begin);
        }
        says("clock: of two clocks, the value in quarters");
        UrgentiaZones y = places(1);
        edge(y, 0, 0, "0!");
        edge(y, 0, 0, "1!");
        y.pass(3);
        y.take(0);
        y.pass(4);
        due(4, () -> y.clock(0));
        due(7, () -> y.clock(1));
        y.take(1);
        y.pass(100);
        due(104, () -> y.clock(0));
        due(100, () -> y.clock(1));
    }

    private static void timeLimit() {
        says("if the time would be greater than 9999");
        UrgentiaZones x = new UrgentiaZones();
        x.addPlace(false, 9);
        pass(x, 9898);
        due(9998, () -> x.pass(100));
        due(ARITHMETIC, () -> x.pass(2));
        due(ARITHMETIC, () -> x.pass(100));
        due(9999, () -> x.pass(1));
        due(ARITHMETIC, () -> x.pass(1));
        due(ARITHMETIC, () -> x.pass(100));
        due(9999, x::time);
        due(9999, () -> x.clock(0));
        due(9999, () -> x.clock(1));
        due(89991L, x::cost);
        due(true, x::isSound);
        due(9999, x::begin);
        due(100, () -> x.pass(100));
        says("the time, and not the clocks, is at most 9999; no limit holds for edges");
        UrgentiaZones y = places(1);
        int back = edge(y, 0, 0, "0!", "1!");
        int late = edge(y, 0, 0, "0>8");
        pass(y, 9999);
        due(0, () -> y.leastWait(late));
        due(0, () -> y.take(back));
        due(ARITHMETIC, () -> y.pass(1));
        due(0, () -> y.clock(0));
        due(9999, y::time);
        says("only the rules of runs count, not the limits of pass()");
        due(33, () -> y.leastWait(late));
        due(0, () -> y.leastWait(back));
    }

    private static void taking() {
        says("if it leads from another place, a condition does not hold, or a clock would be above");
        UrgentiaZones x = places(3);
        x.setGreatest(2, 1, 1);
        int forth = edge(x, 0, 1);
        int back = edge(x, 1, 0);
        int held = edge(x, 1, 1, "0g1", "0!");
        int into = edge(x, 1, 2, "1g1");
        due(UNSUPPORTED, () -> x.take(back));
        due(false, () -> x.canTake(back));
        due(1, () -> x.take(forth));
        due(UNSUPPORTED, () -> x.take(forth));
        due(UNSUPPORTED, () -> x.take(held));
        due(UNSUPPORTED, () -> x.take(into));
        x.pass(3);
        due(UNSUPPORTED, () -> x.take(held));
        x.pass(1);
        due(true, () -> x.canTake(held));
        due(true, () -> x.canTake(into));
        due(1, () -> x.take(held));
        due(UNSUPPORTED, () -> x.take(held));
        due(2, () -> x.take(into));
        due(2, x::place);
        due(UNSUPPORTED, () -> x.pass(1));
        due(UNSUPPORTED, () -> x.take(into));
        due(0, () -> x.clock(0));
        due(4, () -> x.clock(1));
        says("there is no such edge: without edges, and one more than there are");
        due(INDEX, () -> x.take(4));
        due(INDEX, () -> x.canTake(4));
        due(INDEX, () -> x.leastWait(4));
        due(INDEX, () -> x.take(-1));
        due(INDEX, () -> x.canTake(-1));
        due(INDEX, () -> x.leastWait(-1));
    }

    private static void waiting() {
        says("leastWait: 0 if it can now, and if it cannot be taken behind any number of quarters");
        UrgentiaZones x = places(2);
        int later = edge(x, 0, 1, "0>1", "1<2");
        int other = edge(x, 1, 0);
        int above = edge(x, 0, 1, "1>8");
        int back = edge(x, 0, 0, "0!");
        due(5, () -> x.leastWait(later));
        due(NO_ELEMENT, () -> x.leastWait(other));
        due(33, () -> x.leastWait(above));
        due(0, () -> x.leastWait(back));
        x.pass(4);
        due(1, () -> x.leastWait(later));
        x.pass(3);
        due(0, () -> x.leastWait(later));
        x.take(back);
        due(NO_ELEMENT, () -> x.leastWait(later));
        due(26, () -> x.leastWait(above));
        x.pass(26);
        due(0, () -> x.leastWait(above));
        x.pass(100);
        due(0, () -> x.leastWait(above));
        says("leastWait: time passes as long as no clock is above its greatest value");
        UrgentiaZones y = places(1);
        int at = edge(y, 0, 0, "0=8");
        int behind = edge(y, 0, 0, "0>8");
        int first = edge(y, 0, 0, "1!");
        due(32, () -> y.leastWait(at));
        due(33, () -> y.leastWait(behind));
        y.setGreatest(0, 1, 8);
        due(32, () -> y.leastWait(at));
        due(NO_ELEMENT, () -> y.leastWait(behind));
        y.setGreatest(0, 1, 7);
        due(NO_ELEMENT, () -> y.leastWait(at));
        y.pass(28);
        due(NO_ELEMENT, () -> y.leastWait(at));
        y.take(first);
        due(4, () -> y.leastWait(at));
        due(5, () -> y.leastWait(behind));
        says("leastWait: the greatest value in the place to which it leads, and none that urgent places wait");
        UrgentiaZones z = intoUrgent();
        int into = edge(z, 0, 1, "0g2");
        int stay = edge(z, 1, 1, "0g3");
        int leave = edge(z, 1, 0);
        z.setGreatest(1, 1, 2);
        due(8, () -> z.leastWait(into));
        z.setGreatest(1, 1, 1);
        due(NO_ELEMENT, () -> z.leastWait(into));
        z.setBack(into, 1, true);
        due(8, () -> z.leastWait(into));
        z.pass(8);
        z.take(into);
        due(NO_ELEMENT, () -> z.leastWait(stay));
        due(0, () -> z.leastWait(leave));
    }

    // The walk begins anew.

    private static void anew(UrgentiaZones x, boolean isAnew, Supplier<Object> call) {
        x.begin();
        x.pass(6);
        x.take(0);
        x.pass(1);
        due(true, () -> call.get() != null);
        due(isAnew ? 0 : 7, x::time);
        due(isAnew ? 0 : 1, x::place);
        due(isAnew ? 0 : 1, () -> x.clock(0));
        due(isAnew ? 0 : 7, () -> x.clock(1));
        due(isAnew ? 0L : 7L, x::cost);
        due(true, x::isSound);
    }

    private static void beginningAnew() {
        UrgentiaZones x = places(2);
        edge(x, 0, 1, "0!");
        edge(x, 1, 0);
        says("The walk begins anew by each call that adds a place, an edge or a condition");
        anew(x, true, () -> x.addPlace(true, 0));
        anew(x, true, () -> x.addEdge(2, 2, 0));
        anew(x, true, () -> x.addCondition(2, 0, '>', 8));
        says("or that sets a greatest value, also as it was");
        anew(x, true, () -> x.setGreatest(2, 0, 5));
        anew(x, true, () -> x.setGreatest(2, 0, 5));
        anew(x, true, () -> x.setGreatest(2, 0, -1));
        anew(x, true, () -> x.setGreatest(2, 1, -1));
        says("or whether a clock is set back, also as it was");
        anew(x, true, () -> x.setBack(2, 0, true));
        anew(x, true, () -> x.setBack(2, 0, true));
        anew(x, true, () -> x.setBack(2, 0, false));
        anew(x, true, () -> x.setBack(2, 1, false));
        says("mark: this changes nothing else");
        anew(x, false, () -> x.mark(1, true));
        anew(x, false, () -> x.mark(1, true));
        anew(x, false, () -> x.mark(1, false));
        anew(x, false, () -> x.mark(0, false));
        says("what is asked does not begin the walk anew");
        anew(x, false, x::states);
        anew(x, false, x::regions);
        anew(x, false, x::stuck);
        anew(x, false, () -> x.leastWait(1));
        anew(x, false, () -> x.canTake(1));
        says("begin: returns the time that the walk had");
        anew(x, true, () -> {
            due(7, x::begin);
            return true;
        });
    }

    // Without places, and without edges.

    private static void without() {
        says("Without places, clocks, time and cost are 0, and all is sound");
        UrgentiaZones x = new UrgentiaZones();
        due(0, () -> x.clock(0));
        due(0, () -> x.clock(1));
        due(0, x::time);
        due(0L, x::cost);
        due(true, x::isSound);
        says("if there are no places");
        due(STATE, x::states);
        due(STATE, () -> x.placeOf(0));
        due(STATE, () -> x.bound(0, 0, 0));
        due(STATE, () -> x.foundBy(0));
        due(STATE, x::regions);
        due(STATE, x::isSafe);
        due(STATE, x::stuck);
        due(STATE, x::begin);
        due(STATE, () -> x.pass(1));
        due(STATE, () -> x.pass(100));
        due(STATE, x::place);
        due(STATE, x::checksum);
        due(ARITHMETIC, x::reachedShare);
        due(ARITHMETIC, x::meanDegree);
        says("there is no such place, edge or clock: without any");
        due(INDEX, () -> x.setGreatest(0, 0, 0));
        due(INDEX, () -> x.addEdge(0, 0, 0));
        due(INDEX, () -> x.addCondition(0, 0, 'l', 0));
        due(INDEX, () -> x.setBack(0, 0, true));
        due(INDEX, () -> x.mark(0, true));
        due(INDEX, () -> x.reaches(0));
        due(INDEX, () -> x.reachesAnew(0));
        due(INDEX, () -> x.edgesTo(0));
        due(INDEX, () -> x.take(0));
        due(INDEX, () -> x.canTake(0));
        due(INDEX, () -> x.leastWait(0));
        due(INDEX, () -> x.clock(2));
        due(INDEX, () -> x.clock(-1));
        says("what was asked without places does not hang on");
        due(0, () -> x.addPlace(false, 3));
        due(1, x::states);
        due(18, x::regions);
        due(0, x::begin);
        due(0, x::place);
        due(1.0f, x::reachedShare);
        due(0.0, x::meanDegree);
        withoutEdges();
    }

    private static void withoutEdges() {
        says("a system without edges");
        UrgentiaZones x = places(10);
        due(1, x::states);
        due(18, x::regions);
        due(18, x::stuck);
        due(true, x::isSafe);
        due(true, x::isSound);
        due(0.1f, x::reachedShare);
        due(0.0, x::meanDegree);
        due(INDEX, () -> x.setBack(0, 0, true));
        due(INDEX, () -> x.addCondition(0, 0, 'l', 0));
        due(INDEX, () -> x.take(0));
        due(INDEX, () -> x.canTake(0));
        due(INDEX, () -> x.leastWait(0));
        due(100, () -> x.pass(100));
        due(0, x::place);
    }

    // Figures.

    private static void shares() {
        says("their number divided by that of all, both converted to float");
        for (int all = 1; all <= 10; all++) {
            for (int reached = 1; reached <= all; reached++) {
                UrgentiaZones x = places(all);
                for (int place = 1; place < reached; place++) {
                    edge(x, place - 1, place);
                }
                float share = (float) reached / (float) all;
                due(share, x::reachedShare);
            }
        }
    }

    private static void degrees() {
        says("times 4, rounded to the nearest whole number, of two the even one, and divided by 4");
        for (int all = 1; all <= 10; all++) {
            UrgentiaZones x = places(all);
            for (int edges = 0; edges <= 20; edges++) {
                int whole = 4 * edges / all;
                int twice = 2 * (4 * edges % all);
                boolean isUp = twice > all || (twice == all && whole % 2 == 1);
                double mean = (isUp ? whole + 1 : whole) / 4.0;
                due(mean, x::meanDegree);
                if (edges < 20) {
                    x.addEdge(all - 1, 0, 0);
                }
            }
        }
    }

    /** The sum over these bounds as the document says it, kept as a long does. */
    private static long sumOf(List<Integer> bounds) {
        BigInteger sum = BigInteger.ZERO;
        for (int bound : bounds) {
            sum = sum.multiply(BigInteger.valueOf(31)).add(BigInteger.valueOf(bound));
        }
        return sum.longValue();
    }

    private static void dueSum(String words, Supplier<UrgentiaZones> made) {
        says("0 at first, then for each state, first number and second number 31 times itself plus the bound: " + words);
        UrgentiaZones x = made.get();
        List<Integer> bounds = new ArrayList<>();
        int states = x.states();
        for (int state = 0; state < states; state++) {
            UrgentiaZones fresh = made.get();
            for (int index = 0; index < 9; index++) {
                bounds.add(fresh.bound(state, index / 3, index % 3));
            }
        }
        due(sumOf(bounds), x::checksum);
    }

    private static void checksums() {
        dueSum("one state", () -> places(1));
        dueSum("one hundred states, wrapped around", UrgentiaZonesBoundaries::hundred);
        dueSum("bounds below 0", () -> {
            UrgentiaZones x = intoUrgent();
            edge(x, 0, 1, "0>8");
            return x;
        });
        UrgentiaZones urgent = new UrgentiaZones();
        urgent.addPlace(true, 0);
        due((31L * 31L * 31L * 31L * 31L * 31L * 31L * 31L * 31L - 1L) / 30L, urgent::checksum);
    }

    private static void soundness() {
        says("isSound: the walk is in a place that is reached, in each place and behind each step");
        UrgentiaZones x = places(10);
        for (int place = 1; place < 10; place++) {
            edge(x, place - 1, place, (place % 2) + "g1", (place % 2) + "!");
        }
        due(true, x::isSound);
        for (int place = 1; place < 10; place++) {
            pass(x, x.leastWait(place - 1));
            int number = place;
            due(number, () -> x.take(number - 1));
            due(true, x::isSound);
        }
        due(1.0f, x::reachedShare);
        says("isSound: also with one hundred states, and with places that are not reached");
        due(true, () -> hundred().isSound());
        due(true, () -> places(10).isSound());
    }
}
