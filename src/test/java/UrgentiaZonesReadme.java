import java.nio.file.Files;
import java.nio.file.Path;
import java.util.ArrayList;
import java.util.List;
import java.util.regex.Pattern;

/** The example of README.md: each line there is called here, in its order, and answers what is told behind it. */
public final class UrgentiaZonesReadme {
    private static int wrong = 0;
    private static int next = 0;
    private static final List<String> lines = new ArrayList<>();

    private static void fail(String what) {
        wrong++;
        System.out.println("does not hold: " + what);
    }

    /** The lines of the first block of Java, without the empty ones. */
    private static void readExample() throws Exception {
        boolean isInside = false;
        for (String line : Files.readAllLines(Path.of("README.md"))) {
            if (isInside && line.equals("```")) {
                return;
            }
            if (isInside && !line.isEmpty()) {
                lines.add(line);
            }
            isInside = isInside || line.equals("```java");
        }
        fail("README.md has a whole example");
    }

    /** The next line of the example has this call, and tells this answer of it. */
    private static void row(String call, Object answer) {
        String line = next < lines.size() ? lines.get(next) : "";
        next++;
        String told = call + " // " + answer;
        String found = line.replaceAll(" +//", " //");
        if (!found.matches(Pattern.quote(told) + "([ :,].*)?")) {
            fail("'" + told + "' in the line '" + line + "'");
        }
    }

    private static void callExample() {
        UrgentiaZones zones = new UrgentiaZones();
        int waiting = zones.addPlace(false, 2);
        row("int waiting = zones.addPlace(false, 2);", waiting);
        int done = zones.addPlace(true, 0);
        row("int done = zones.addPlace(true, 0);", done);
        row("zones.setGreatest(waiting, 0, 3);", zones.setGreatest(waiting, 0, 3));
        int edge = zones.addEdge(waiting, done, 5);
        row("int edge = zones.addEdge(waiting, done, 5);", edge);
        row("zones.addCondition(edge, 0, 'g', 2);", zones.addCondition(edge, 0, 'g', 2));
        row("zones.setBack(edge, 1, true);", zones.setBack(edge, 1, true));
        row("zones.mark(done, true);", zones.mark(done, true));
        row("zones.states();", zones.states());
        row("zones.bound(0, 1, 0);", zones.bound(0, 1, 0));
        row("zones.foundBy(1);", zones.foundBy(1));
        row("zones.reaches(done);", zones.reaches(done));
        row("zones.reachesAnew(done);", zones.reachesAnew(done));
        row("zones.edgesTo(done);", zones.edgesTo(done));
        row("zones.isSafe();", zones.isSafe());
        row("zones.stuck();", zones.stuck());
        row("zones.leastWait(edge);", zones.leastWait(edge));
        row("zones.pass(9);", zones.pass(9));
        row("zones.take(edge);", zones.take(edge));
        row("zones.clock(0);", zones.clock(0));
        row("zones.clock(1);", zones.clock(1));
        row("zones.cost();", zones.cost());
    }

    public static void main(String[] args) throws Exception {
        readExample();
        if (!lines.isEmpty() && lines.get(0).equals("UrgentiaZones zones = new UrgentiaZones();")) {
            next = 1;
        } else {
            fail("the example makes an object first");
        }
        callExample();
        if (next != lines.size()) {
            fail("the example has " + lines.size() + " lines, of which " + next + " are called");
        }
        System.out.println(wrong == 0 ? "the example of README.md holds" : wrong + " lines are not as due");
        if (wrong != 0) {
            System.exit(1);
        }
    }
}
