import com.sun.management.ThreadMXBean;
import java.lang.management.ManagementFactory;

/** What a run makes stays small: all rows are made with the object, and the calls make nothing. */
public final class RoomTest {
    private static final int ROUNDS = 200;
    // Far below the room's 7.3 million elements, however many objects a run of 512 calls makes.
    private static final long MOST_BYTES_AN_OBJECT = 8000;
    // The machine itself makes a little now and then; a single int[1] a call would be over 100000.
    private static final long MOST_BYTES_ALL_CALLS = 20000;

    private static final ThreadMXBean THREADS = (ThreadMXBean) ManagementFactory.getThreadMXBean();
    private static long sum = 0;

    public static void main(String[] args) {
        PartGraphs graphs = Told.of("part 1 2 part 1 2 part 3 4 cover 0 1 way 2 0 1 fasten 0 2 3 option 1 2");
        useAll(graphs);
        useAll(new PartGraphs());
        long start = bytes();
        for (int round = 0; round < ROUNDS; round++) {
            useAll(graphs);
        }
        long used = bytes() - start;
        Due.yes("the calls make next to nothing: " + used + " bytes", used <= MOST_BYTES_ALL_CALLS);

        start = bytes();
        for (int round = 0; round < ROUNDS; round++) {
            sum += new PartGraphs().loose();
        }
        used = (bytes() - start) / ROUNDS;
        Due.yes("an object is small: " + used + " bytes", used <= MOST_BYTES_AN_OBJECT);
        Due.no("the sum of all answers", sum == 0);
        Due.end();
    }

    private static long bytes() {
        return THREADS.getThreadAllocatedBytes(Thread.currentThread().getId());
    }

    private static void useAll(PartGraphs graphs) {
        graphs.part(1, 5);
        graphs.part(1, 5);
        graphs.fasten(0, 1, 0);
        graphs.cover(0, 1);
        graphs.way(0, 3, 1);
        graphs.option(0, 1);
        graphs.hazard(0, 1);
        graphs.damage(0, 1);
        sum += graphs.before(1, 0) + graphs.ring(0) + graphs.family(0, 0) + graphs.alike(0, 0);
        sum += graphs.weight(0) + graphs.write(20) + graphs.loose();
        sum += graphs.holds(0, 1, 0) && graphs.free(1, 1) && graphs.plain(1, 1) ? 1 : 0;
        tell(graphs, "part 1 2 part 1 2 cover 0 1 way 0 1 1 fasten 0 1 2 hazard 1 3 option 0 1 damage 0 0 ");
        sum += graphs.read();
        tell(graphs, "part 1 2 way 0 1 1");
        sum += graphs.read();
    }

    private static void tell(PartGraphs graphs, String text) {
        for (int i = 0; i < text.length(); i++) {
            graphs.unit(text.charAt(i));
        }
    }
}
