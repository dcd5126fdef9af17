import java.util.ArrayList;
import java.util.HashMap;
import java.util.HashSet;
import java.util.List;
import java.util.Map;
import java.util.NoSuchElementException;
import java.util.Set;
import java.util.function.Supplier;

/**
 * Runs of drawn calls on the class and on a model that is made another way: its zones are sets of points, of which the
 * bounds are measured, and its regions are points, which time carries on by twelfths. Each answer is compared.
 */
public final class UrgentiaZonesAgainstModel {
    private static int wrong = 0;
    private static int answers = 0;
    private static int givenUp = 0;
    private static final Map<String, Integer> seen = new HashMap<>();

    public static void main(String[] args) {
        int runs = args.length > 0 ? Integer.parseInt(args[0]) : 120;
        long seed = args.length > 1 ? Long.parseLong(args[1]) : 1L;
        for (int run = 0; run < runs && wrong < 20; run++) {
            new Run(seed * 1000003L + run).go();
        }
        List<String> names = new ArrayList<>(seen.keySet());
        names.sort(null);
        if (args.length > 2) {
            for (String name : names) {
                System.out.println(name + " " + seen.get(name));
            }
        }
        checkDrawn(runs);
        System.out.println(answers + " answers compared in " + runs + " runs, " + givenUp + " given up, "
            + wrong + " not as due");
        if (wrong != 0) {
            System.exit(1);
        }
    }

    /** What is drawn must come to the rarer answers, too, or it tells little. */
    private static void checkDrawn(int runs) {
        if (runs < 100) {
            return;
        }
        String[] due = {
            "addPlace IllegalStateException", "addEdge IllegalStateException", "addCondition IllegalStateException",
            "states UnsupportedOperationException", "reaches false", "reachesAnew false", "foundBy NoSuchElementException",
            "edgesTo NoSuchElementException", "isSafe false", "pass UnsupportedOperationException",
            "take UnsupportedOperationException", "leastWait NoSuchElementException", "canTake true",
        };
        for (String name : due) {
            if (!seen.containsKey(name)) {
                wrong++;
                System.out.println("never drawn: " + name);
            }
        }
    }

    private static String answer(Supplier<Object> call) {
        try {
            return String.valueOf(call.get());
        } catch (IllegalArgumentException | IllegalStateException | IndexOutOfBoundsException | ArithmeticException
                | UnsupportedOperationException | NoSuchElementException e) {
            return e.getClass() == ArrayIndexOutOfBoundsException.class ? "the machine" : e.getClass().getSimpleName();
        }
    }

    /** One run: a new object, a new model, and calls of one drawn kind of system. */
    private static final class Run {
        private final long seed;
        private long drawn;
        private final UrgentiaZones zones = new UrgentiaZones();
        private final Model model = new Model();
        private final StringBuilder told = new StringBuilder();
        private int calls;

        Run(long seed) {
            this.seed = seed;
            this.drawn = seed * 0x9E3779B97F4A7C15L;
        }

        private int draw(int below) {
            drawn = drawn * 6364136223846793005L + 1442695040888963407L;
            return (int) ((drawn >>> 33) % below);
        }

        private void compare(String name, String values, Supplier<Object> mine, Supplier<Object> due) {
            calls++;
            answers++;
            String got = answer(mine);
            String want = answer(due);
            told.append(name).append('(').append(values).append(") ").append(want).append('\n');
            seen.merge(name + " " + (want.matches("-?[0-9.E-]+") ? "a number" : want), 1, Integer::sum);
            if (!got.equals(want)) {
                wrong++;
                if (wrong == 1) {
                    System.out.println(told);
                }
                System.out.println("run " + seed + ", call " + calls + ": " + name + "(" + values + ") answered " + got
                    + ", due is " + want);
            }
        }

        void go() {
            ask();
            if (draw(12) == 0) {
                addRing();
            }
            int places = 1 + draw(draw(4) == 0 ? 11 : 4);
            int edges = draw(3) == 0 ? draw(24) : 1 + draw(7);
            int numbers = 1 + draw(draw(2) == 0 ? 4 : 9);
            for (int place = 0; place < places; place++) {
                addPlace(numbers);
            }
            for (int edge = 0; edge < edges; edge++) {
                addEdge(numbers);
            }
            ask();
            for (int turn = 0; turn < 3; turn++) {
                walk();
                change(numbers);
                ask();
            }
        }

        /** A ring of places in which the clock 0 ticks, as the clock 1 goes on: of these there are many states. */
        private void addRing() {
            int size = 6 + draw(5);
            for (int place = 0; place < size; place++) {
                compare("addPlace", "false, 1", () -> zones.addPlace(false, 1), () -> model.addPlace(false, 1));
            }
            for (int place = 0; place < size; place++) {
                int from = place;
                int to = (place + 1) % size;
                compare("addEdge", from + ", " + to + ", 2", () -> zones.addEdge(from, to, 2),
                    () -> model.addEdge(from, to, 2));
            }
            compare("addEdge", "0, 0, 3", () -> zones.addEdge(0, 0, 3), () -> model.addEdge(0, 0, 3));
            compare("addCondition", size + ", 0, =, 1", () -> zones.addCondition(size, 0, '=', 1),
                () -> model.addCondition(size, 0, '=', 1));
            setBack(size, 0, true);
            compare("addCondition", "0, 1, l, 8", () -> zones.addCondition(0, 1, 'l', 8),
                () -> model.addCondition(0, 1, 'l', 8));
        }

        private void addPlace(int numbers) {
            boolean isUrgent = draw(5) == 0;
            int rate = draw(11) - (draw(20) == 0 ? 1 : 0);
            compare("addPlace", isUrgent + ", " + rate, () -> zones.addPlace(isUrgent, rate),
                () -> model.addPlace(isUrgent, rate));
            for (int clock = 0; clock < 2; clock++) {
                if (draw(4) == 0) {
                    setGreatest(draw(numbers));
                }
            }
        }

        private void setGreatest(int value) {
            int place = draw(model.places() + 2) - draw(2);
            int clock = draw(20) == 0 ? draw(4) - 1 : draw(2);
            compare("setGreatest", place + ", " + clock + ", " + value, () -> zones.setGreatest(place, clock, value),
                () -> model.setGreatest(place, clock, value));
        }

        private void addEdge(int numbers) {
            int from = draw(20) == 0 ? draw(13) - 1 : draw(Math.max(1, model.places()));
            int to = draw(20) == 0 ? draw(13) - 1 : draw(Math.max(1, model.places()));
            int price = draw(20) == 0 ? draw(202) - 101 : draw(100);
            compare("addEdge", from + ", " + to + ", " + price, () -> zones.addEdge(from, to, price),
                () -> model.addEdge(from, to, price));
            int edge = model.edges() - 1;
            int conditions = draw(4);
            for (int condition = 0; condition < conditions; condition++) {
                addCondition(edge, draw(numbers));
            }
            for (int clock = 0; clock < 2; clock++) {
                if (draw(3) == 0) {
                    setBack(edge, clock, true);
                }
            }
        }

        private void addCondition(int edge, int value) {
            int clock = draw(20) == 0 ? draw(4) - 1 : draw(2);
            char relation = "<l=g>".charAt(draw(5));
            compare("addCondition", edge + ", " + clock + ", " + relation + ", " + value,
                () -> zones.addCondition(edge, clock, relation, value),
                () -> model.addCondition(edge, clock, relation, value));
        }

        private void setBack(int edge, int clock, boolean isBack) {
            compare("setBack", edge + ", " + clock + ", " + isBack, () -> zones.setBack(edge, clock, isBack),
                () -> model.setBack(edge, clock, isBack));
        }

        private void change(int numbers) {
            switch (draw(8)) {
                case 0 -> addPlace(numbers);
                case 1, 2 -> addEdge(numbers);
                case 3 -> setGreatest(draw(11) - 2);
                case 4 -> addCondition(draw(model.edges() + 2) - 1, draw(numbers));
                case 5 -> setBack(draw(model.edges() + 2) - 1, draw(20) == 0 ? draw(4) - 1 : draw(2), draw(2) == 0);
                case 6 -> compareChar();
                default -> setGreatest(-1);
            }
        }

        private void compareChar() {
            int edge = draw(model.edges() + 1);
            char relation = (char) draw(128);
            int value = draw(12) - 2;
            compare("addCondition", edge + ", 0, " + (int) relation + ", " + value,
                () -> zones.addCondition(edge, 0, relation, value),
                () -> model.addCondition(edge, 0, relation, value));
        }

        private void walk() {
            for (int step = 0; step < 20; step++) {
                if (draw(2) == 0) {
                    int quarters = draw(4) == 0 ? draw(104) - 2 : 1 + draw(9);
                    compare("pass", "" + quarters, () -> zones.pass(quarters), () -> model.pass(quarters));
                }
                int least = draw(model.edges() + 1);
                compare("leastWait", "" + least, () -> zones.leastWait(least), () -> model.leastWait(least));
                int edge = nextEdge();
                compare("canTake", "" + edge, () -> zones.canTake(edge), () -> model.canTake(edge));
                compare("take", "" + edge, () -> zones.take(edge), () -> model.take(edge));
                askWalk();
            }
            if (draw(3) == 0) {
                compare("begin", "", zones::begin, model::begin);
            }
        }

        private int nextEdge() {
            int edge = draw(model.edges() + 2) - 1;
            for (int tries = 0; tries < 6 && edge >= 0 && edge < model.edges() && !model.canTake(edge); tries++) {
                edge = draw(model.edges());
            }
            return edge;
        }

        private void askWalk() {
            compare("place", "", zones::place, model::place);
            compare("clock", "0", () -> zones.clock(0), () -> model.clock(0));
            compare("clock", "1", () -> zones.clock(1), () -> model.clock(1));
            compare("time", "", zones::time, model::time);
            compare("cost", "", zones::cost, model::cost);
        }

        private void ask() {
            int bad = draw(model.places() + 2) - 1;
            boolean isBad = draw(2) == 0;
            compare("mark", bad + ", " + isBad, () -> zones.mark(bad, isBad), () -> model.mark(bad, isBad));
            compare("states", "", zones::states, model::states);
            if ("UnsupportedOperationException".equals(answer(model::states))) {
                givenUp++;
            }
            compare("checksum", "", zones::checksum, model::checksum);
            for (int state = -1; state <= 6; state++) {
                askState(state);
            }
            for (int place = -1; place <= model.places(); place++) {
                askPlace(place);
            }
            compare("regions", "", zones::regions, model::regions);
            compare("stuck", "", zones::stuck, model::stuck);
            compare("isSafe", "", zones::isSafe, model::isSafe);
            compare("reachedShare", "", zones::reachedShare, model::reachedShare);
            compare("meanDegree", "", zones::meanDegree, model::meanDegree);
            compare("isSound", "", zones::isSound, () -> true);
            compare("clock", "2", () -> zones.clock(2), () -> model.clock(2));
            askWalk();
        }

        private void askState(int state) {
            compare("placeOf", "" + state, () -> zones.placeOf(state), () -> model.placeOf(state));
            compare("foundBy", "" + state, () -> zones.foundBy(state), () -> model.foundBy(state));
            int first = draw(5) - 1;
            int second = draw(5) - 1;
            compare("bound", state + ", " + first + ", " + second, () -> zones.bound(state, first, second),
                () -> model.bound(state, first, second));
        }

        private void askPlace(int place) {
            compare("reaches", "" + place, () -> zones.reaches(place), () -> model.reaches(place));
            compare("reachesAnew", "" + place, () -> zones.reachesAnew(place), () -> model.reachesAnew(place));
            compare("edgesTo", "" + place, () -> zones.edgesTo(place), () -> model.edgesTo(place));
        }
    }

    /** A place as the model has it. */
    private static final class Spot {
        boolean isUrgent;
        boolean isBad;
        int rate;
        int[] greatest = {-1, -1};
    }

    /** An edge as the model has it; a condition is a clock, a relation and a number. */
    private static final class Arc {
        int from;
        int to;
        int price;
        List<int[]> conditions = new ArrayList<>();
        boolean[] back = new boolean[2];
    }

    /** A state as the model has it. */
    private static final class Found {
        int place;
        int edge;
        Points points;
        int[] bounds;
    }

    /** A set of values of both clocks, on a grid of quarters from 0 to 40, far above all that is compared. */
    private static final class Points {
        static final int PARTS = 4;
        static final int WINDOW = 40;
        static final int SIDE = WINDOW * PARTS + 1;
        final boolean[] in = new boolean[SIDE * SIDE];

        static Points start() {
            Points points = new Points();
            points.in[0] = true;
            return points;
        }

        static Points within(int[] bounds) {
            Points points = new Points();
            for (int x = 0; x < SIDE; x++) {
                for (int y = 0; y < SIDE; y++) {
                    int[] numbers = {0, x, y};
                    boolean isIn = true;
                    for (int i = 0; i < 3; i++) {
                        for (int j = 0; j < 3; j++) {
                            isIn = isIn && keepsTo(numbers[i] - numbers[j], bounds[3 * i + j]);
                        }
                    }
                    points.in[x * SIDE + y] = isIn;
                }
            }
            return points;
        }

        private static boolean keepsTo(int less, int bound) {
            if (bound == 99) {
                return true;
            }
            int number = Math.floorDiv(bound, 2) * PARTS;
            return Math.floorMod(bound, 2) == 1 ? less <= number : less < number;
        }

        boolean isEmpty() {
            for (boolean is : in) {
                if (is) {
                    return false;
                }
            }
            return true;
        }

        boolean hasAllOf(Points others) {
            for (int index = 0; index < in.length; index++) {
                if (others.in[index] && !in[index]) {
                    return false;
                }
            }
            return true;
        }

        /** The points that come of these by an edge, without time behind it. */
        Points behind(Arc arc, Spot target) {
            Points points = new Points();
            for (int x = 0; x < SIDE; x++) {
                for (int y = 0; y < SIDE; y++) {
                    if (in[x * SIDE + y] && Model.holds(arc, x, y, PARTS)) {
                        int nextX = arc.back[0] ? 0 : x;
                        int nextY = arc.back[1] ? 0 : y;
                        if (Model.fits(target, nextX, nextY, PARTS)) {
                            points.in[nextX * SIDE + nextY] = true;
                        }
                    }
                }
            }
            return points;
        }

        /** These points, and those that come of them by time in a place. */
        Points withTime(Spot spot) {
            Points points = new Points();
            for (int x = 0; x < SIDE; x++) {
                for (int y = 0; y < SIDE; y++) {
                    boolean isEarlierIn = x > 0 && y > 0 && points.in[(x - 1) * SIDE + y - 1];
                    boolean comes = !spot.isUrgent && isEarlierIn && Model.fits(spot, x, y, PARTS);
                    points.in[x * SIDE + y] = in[x * SIDE + y] || comes;
                }
            }
            return points;
        }

        /** The narrowest bounds, measured: what no whole number holds comes as near as anyone likes to the next. */
        int[] measure() {
            int[] most = new int[9];
            java.util.Arrays.fill(most, Integer.MIN_VALUE);
            for (int x = 0; x < SIDE; x++) {
                for (int y = 0; y < SIDE; y++) {
                    if (in[x * SIDE + y]) {
                        int[] numbers = {0, x, y};
                        for (int i = 0; i < 9; i++) {
                            most[i] = Math.max(most[i], numbers[i / 3] - numbers[i % 3]);
                        }
                    }
                }
            }
            for (int i = 0; i < 9; i++) {
                if (most[i] >= 20 * PARTS) {
                    most[i] = 99;
                } else if (Math.floorMod(most[i], PARTS) == 0) {
                    most[i] = 2 * Math.floorDiv(most[i], PARTS) + 1;
                } else {
                    most[i] = 2 * (Math.floorDiv(most[i], PARTS) + 1);
                }
            }
            return most;
        }
    }

    /** The model: what the document says, made plainly, with no eye for time and room. */
    private static final class Model {
        private final List<Spot> spots = new ArrayList<>();
        private final List<Arc> arcs = new ArrayList<>();
        private List<Found> found;
        private boolean isTooMuch;
        private Map<List<Integer>, Integer> levels;
        private int at;
        private int[] clocks = new int[2];
        private int passed;
        private long spent;

        int places() {
            return spots.size();
        }

        int edges() {
            return arcs.size();
        }

        private void anew() {
            found = null;
            levels = null;
            restart();
        }

        private void restart() {
            at = 0;
            clocks = new int[2];
            passed = 0;
            spent = 0;
        }

        private static void need(boolean is, Supplier<RuntimeException> otherwise) {
            if (!is) {
                throw otherwise.get();
            }
        }

        private void needPlace(int place) {
            need(place >= 0 && place < spots.size(), IndexOutOfBoundsException::new);
        }

        private void needEdge(int edge) {
            need(edge >= 0 && edge < arcs.size(), IndexOutOfBoundsException::new);
        }

        private static void needClock(int clock) {
            need(clock == 0 || clock == 1, IndexOutOfBoundsException::new);
        }

        int addPlace(boolean isUrgent, int rate) {
            need(rate >= 0 && rate <= 9, IllegalArgumentException::new);
            need(spots.size() < 10, IllegalStateException::new);
            Spot spot = new Spot();
            spot.isUrgent = isUrgent;
            spot.rate = rate;
            spots.add(spot);
            anew();
            return spots.size() - 1;
        }

        int setGreatest(int place, int clock, int value) {
            needPlace(place);
            needClock(clock);
            need(value >= -1 && value <= 8, IllegalArgumentException::new);
            int before = spots.get(place).greatest[clock];
            spots.get(place).greatest[clock] = value;
            anew();
            return before;
        }

        int addEdge(int from, int to, int price) {
            needPlace(from);
            needPlace(to);
            need(price >= 0 && price <= 99, IllegalArgumentException::new);
            need(arcs.size() < 20, IllegalStateException::new);
            Arc arc = new Arc();
            arc.from = from;
            arc.to = to;
            arc.price = price;
            arcs.add(arc);
            anew();
            return arcs.size() - 1;
        }

        int addCondition(int edge, int clock, char relation, int value) {
            needEdge(edge);
            needClock(clock);
            need("<l=g>".indexOf(relation) >= 0 && value >= 0 && value <= 8, IllegalArgumentException::new);
            List<int[]> conditions = arcs.get(edge).conditions;
            need(conditions.size() < 3, IllegalStateException::new);
            conditions.add(new int[] {clock, relation, value});
            anew();
            return conditions.size();
        }

        boolean setBack(int edge, int clock, boolean isBack) {
            needEdge(edge);
            needClock(clock);
            boolean before = arcs.get(edge).back[clock];
            arcs.get(edge).back[clock] = isBack;
            anew();
            return before;
        }

        boolean mark(int place, boolean isBad) {
            needPlace(place);
            boolean before = spots.get(place).isBad;
            spots.get(place).isBad = isBad;
            return before;
        }

        static boolean holds(Arc arc, int x, int y, int parts) {
            for (int[] condition : arc.conditions) {
                int compared = Integer.compare(condition[0] == 0 ? x : y, condition[2] * parts);
                boolean is = switch ((char) condition[1]) {
                    case '<' -> compared < 0;
                    case 'l' -> compared <= 0;
                    case '=' -> compared == 0;
                    case 'g' -> compared >= 0;
                    default -> compared > 0;
                };
                if (!is) {
                    return false;
                }
            }
            return true;
        }

        static boolean fits(Spot spot, int x, int y, int parts) {
            return (spot.greatest[0] == -1 || x <= spot.greatest[0] * parts)
                && (spot.greatest[1] == -1 || y <= spot.greatest[1] * parts);
        }

        private boolean opens(Arc arc, int x, int y, int parts) {
            return holds(arc, x, y, parts)
                && fits(spots.get(arc.to), arc.back[0] ? 0 : x, arc.back[1] ? 0 : y, parts);
        }

        private int greatestNumber(int clock) {
            int most = 0;
            for (Spot spot : spots) {
                most = Math.max(most, spot.greatest[clock]);
            }
            for (Arc arc : arcs) {
                for (int[] condition : arc.conditions) {
                    most = condition[0] == clock ? Math.max(most, condition[2]) : most;
                }
            }
            return most;
        }

        private int[] widen(int[] bounds) {
            int[] wide = bounds.clone();
            for (int i = 0; i < 3; i++) {
                for (int j = 0; j < 3; j++) {
                    if (i != j && i > 0 && bounds[3 * i + j] != 99) {
                        if (Math.floorDiv(bounds[3 * i + j], 2) > greatestNumber(i - 1)) {
                            wide[3 * i + j] = 99;
                        }
                    }
                    if (i != j && j > 0 && bounds[3 * i + j] != 99) {
                        int number = greatestNumber(j - 1);
                        if (Math.floorDiv(bounds[3 * i + j], 2) < -number) {
                            wide[3 * i + j] = -2 * number;
                        }
                    }
                }
            }
            return wide;
        }

        private void find() {
            need(!spots.isEmpty(), IllegalStateException::new);
            if (found == null) {
                found = new ArrayList<>();
                isTooMuch = false;
                keep(0, -1, Points.start());
                for (int state = 0; state < found.size() && !isTooMuch; state++) {
                    for (int edge = 0; edge < arcs.size() && !isTooMuch; edge++) {
                        Arc arc = arcs.get(edge);
                        if (arc.from == found.get(state).place) {
                            keep(arc.to, edge, found.get(state).points.behind(arc, spots.get(arc.to)));
                        }
                    }
                }
            }
            need(!isTooMuch, UnsupportedOperationException::new);
        }

        private void keep(int place, int edge, Points come) {
            if (come.isEmpty()) {
                return;
            }
            Found state = new Found();
            state.place = place;
            state.edge = edge;
            state.points = Points.within(widen(come.withTime(spots.get(place)).measure()));
            state.bounds = state.points.measure();
            for (Found other : found) {
                if (other.place == place && other.points.hasAllOf(state.points)) {
                    return;
                }
            }
            isTooMuch = found.size() == 100;
            if (!isTooMuch) {
                found.add(state);
            }
        }

        private void needState(int state) {
            need(state >= 0 && state < found.size(), IndexOutOfBoundsException::new);
        }

        int states() {
            find();
            return found.size();
        }

        int placeOf(int state) {
            find();
            needState(state);
            return found.get(state).place;
        }

        int bound(int state, int first, int second) {
            find();
            needState(state);
            need(first >= 0 && first <= 2 && second >= 0 && second <= 2, IndexOutOfBoundsException::new);
            return found.get(state).bounds[3 * first + second];
        }

        int foundBy(int state) {
            find();
            needState(state);
            need(state > 0, NoSuchElementException::new);
            return found.get(state).edge;
        }

        boolean reaches(int place) {
            needPlace(place);
            find();
            return found.stream().anyMatch(state -> state.place == place);
        }

        long checksum() {
            find();
            long sum = 0;
            for (Found state : found) {
                for (int bound : state.bounds) {
                    sum = 31 * sum + bound;
                }
            }
            return sum;
        }

        /** A place and a point for a region, in twelfths: parts of 4 and 8, or 6 where nothing is to be told apart. */
        private static List<Integer> regionOf(int place, int x, int y) {
            int partX = x > 96 ? 0 : x % 12;
            int partY = y > 96 ? 0 : y % 12;
            int order = partX == 0 || partY == 0 ? 0 : Integer.compare(partX, partY);
            int toldX = x > 96 ? 100 : x - partX + (partX == 0 ? 0 : 6 + 2 * order);
            int toldY = y > 96 ? 100 : y - partY + (partY == 0 ? 0 : 6 - 2 * order);
            return List.of(place, toldX, toldY);
        }

        /** Goes on from all that was found by time first, and then by one edge more. */
        private void findRegions() {
            need(!spots.isEmpty(), IllegalStateException::new);
            if (levels != null) {
                return;
            }
            levels = new HashMap<>();
            List<List<Integer>> front = List.of(regionOf(0, 0, 0));
            for (int level = 0; !front.isEmpty(); level++) {
                List<List<Integer>> reached = new ArrayList<>();
                for (List<Integer> region : front) {
                    for (List<Integer> later : later(region)) {
                        if (levels.putIfAbsent(later, level) == null) {
                            reached.add(later);
                        }
                    }
                }
                front = new ArrayList<>();
                for (List<Integer> region : reached) {
                    for (Arc arc : arcs) {
                        int x = region.get(1);
                        int y = region.get(2);
                        if (arc.from == region.get(0) && opens(arc, x, y, 12)) {
                            front.add(regionOf(arc.to, arc.back[0] ? 0 : x, arc.back[1] ? 0 : y));
                        }
                    }
                }
            }
        }

        private Set<List<Integer>> later(List<Integer> region) {
            Spot spot = spots.get(region.get(0));
            Set<List<Integer>> regions = new HashSet<>();
            regions.add(region);
            for (int time = 1; time <= 110 && !spot.isUrgent; time++) {
                int x = region.get(1) + time;
                int y = region.get(2) + time;
                if (!fits(spot, x, y, 12)) {
                    break;
                }
                regions.add(regionOf(region.get(0), x, y));
            }
            return regions;
        }

        private int levelOf(int place) {
            findRegions();
            int least = -1;
            for (Map.Entry<List<Integer>, Integer> entry : levels.entrySet()) {
                if (entry.getKey().get(0) == place && (least < 0 || entry.getValue() < least)) {
                    least = entry.getValue();
                }
            }
            return least;
        }

        boolean reachesAnew(int place) {
            needPlace(place);
            return levelOf(place) >= 0;
        }

        int edgesTo(int place) {
            needPlace(place);
            need(levelOf(place) >= 0, NoSuchElementException::new);
            return levelOf(place);
        }

        int regions() {
            findRegions();
            return levels.size();
        }

        boolean isSafe() {
            findRegions();
            for (int place = 0; place < spots.size(); place++) {
                if (spots.get(place).isBad && levelOf(place) >= 0) {
                    return false;
                }
            }
            return true;
        }

        int stuck() {
            findRegions();
            int stuck = 0;
            for (List<Integer> region : levels.keySet()) {
                boolean isStuck = true;
                for (List<Integer> later : later(region)) {
                    for (Arc arc : arcs) {
                        isStuck = isStuck
                            && !(arc.from == later.get(0) && opens(arc, later.get(1), later.get(2), 12));
                    }
                }
                stuck += isStuck ? 1 : 0;
            }
            return stuck;
        }

        int begin() {
            need(!spots.isEmpty(), IllegalStateException::new);
            int before = passed;
            restart();
            return before;
        }

        int pass(int quarters) {
            need(quarters >= 1 && quarters <= 100, IllegalArgumentException::new);
            need(!spots.isEmpty(), IllegalStateException::new);
            Spot spot = spots.get(at);
            need(!spot.isUrgent && fits(spot, clocks[0] + quarters, clocks[1] + quarters, 4),
                UnsupportedOperationException::new);
            need(passed + quarters <= 9999, ArithmeticException::new);
            clocks[0] += quarters;
            clocks[1] += quarters;
            passed += quarters;
            spent += spot.rate * quarters;
            return passed;
        }

        boolean canTake(int edge) {
            needEdge(edge);
            return arcs.get(edge).from == at && opens(arcs.get(edge), clocks[0], clocks[1], 4);
        }

        int take(int edge) {
            need(canTake(edge), UnsupportedOperationException::new);
            Arc arc = arcs.get(edge);
            for (int clock = 0; clock < 2; clock++) {
                clocks[clock] = arc.back[clock] ? 0 : clocks[clock];
            }
            at = arc.to;
            spent += arc.price;
            return at;
        }

        int leastWait(int edge) {
            needEdge(edge);
            Arc arc = arcs.get(edge);
            Spot spot = spots.get(at);
            int longest = arc.from != at ? -1 : spot.isUrgent ? 0 : 500;
            for (int wait = 0; wait <= longest && fits(spot, clocks[0] + wait, clocks[1] + wait, 4); wait++) {
                if (opens(arc, clocks[0] + wait, clocks[1] + wait, 4)) {
                    return wait;
                }
            }
            throw new NoSuchElementException();
        }

        int place() {
            need(!spots.isEmpty(), IllegalStateException::new);
            return at;
        }

        int clock(int clock) {
            needClock(clock);
            return clocks[clock];
        }

        int time() {
            return passed;
        }

        long cost() {
            return spent;
        }

        float reachedShare() {
            need(!spots.isEmpty(), ArithmeticException::new);
            int reached = 0;
            for (int place = 0; place < spots.size(); place++) {
                reached += levelOf(place) >= 0 ? 1 : 0;
            }
            return (float) reached / (float) spots.size();
        }

        double meanDegree() {
            need(!spots.isEmpty(), ArithmeticException::new);
            return Math.rint((double) arcs.size() / (double) spots.size() * 4) / 4;
        }
    }
}
