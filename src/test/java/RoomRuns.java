import com.sun.management.ThreadMXBean;
import java.lang.management.ManagementFactory;

/**
 * The dearest runs: all that is made in one of them, the object too, has room for
 * 7.3 million fields and elements and 600,000 objects. What is measured is bytes:
 * a field or an element has one at least, an object sixteen, so as many bytes as
 * fields are allowed are within both.
 */
public final class RoomRuns {
    private static final int FULL = -4, ENDED = -5;
    private static final long ROOM = 7_300_000;
    private static final int MOST_CALLS = 512;
    private static final String TWELVE = "abcdefghijkl";
    private static int wrong = 0;

    private final String name;
    private final SnippetStops x;
    private final long ahead;
    private int calls = 0;

    private RoomRuns(String name) {
        this.name = name;
        ahead = made();
        x = new SnippetStops();
    }

    private static long made() {
        ThreadMXBean threads = (ThreadMXBean) ManagementFactory.getThreadMXBean();
        return threads.getThreadAllocatedBytes(Thread.currentThread().getId());
    }

    private void due(String call, long got, long want) {
        calls++;
        if (got != want) {
            wrong++;
            System.out.println(name + ", call " + calls + ": " + call + " answered " + got + ", due is " + want);
        }
    }

    private void tell(String text) {
        for (int i = 0; i < text.length(); i++) {
            due("type", x.type(text.charAt(i)), i + 1);
        }
    }

    private void begins(int times, int want) {
        for (int i = 0; i < times; i++) {
            due("begins()", x.begins(), want);
        }
    }

    private boolean hasCalls(int n) {
        return calls + n <= MOST_CALLS;
    }

    private void end() {
        long bytes = made() - ahead;
        if (calls > MOST_CALLS || bytes > ROOM) {
            wrong++;
            System.out.println(name + ": " + calls + " calls made " + bytes + " bytes, room is for " + ROOM);
        }
        System.out.println(name + ": " + calls + " calls made " + bytes + " bytes at most");
    }

    private static String outer(int times, String inner) {
        return "${1:" + "$A".repeat(times) + inner + "}";
    }

    /** The run of issue 6, and what is seen when it is over. */
    private static void longOnesKept() {
        String low = "${2:$3$3$3${3:$4$4${4:$5$5$5}${5:$1$1$1}}}";
        String high = "${6:$7$7$7${7:$8$8${8:$9$9$9}${9:$1$1$1}}}";
        String down = "${0:$4$4$4${4:$3$3${3:$2$2$2}${2:$1$1$1}}}";
        String[] templates = {outer(18, low), outer(19, low), outer(18, high), outer(19, high), outer(19, down)};
        int[] turns = {7, 8, 7, 8, 9};
        int[] left = {0, 0, 1, 1, 2};
        RoomRuns run = new RoomRuns("long ones kept");
        SnippetStops x = run.x;
        run.tell(TWELVE);
        run.due("variable(0)", x.variable(0), 12);
        for (int k = 0; k < templates.length; k++) {
            run.due("clear()", x.clear(), k == 0 ? 12 : templates[k - 1].length());
            run.tell(templates[k]);
            run.begins(1, 1);
            if (k == 0) {
                run.due("stop(2, 2)", x.stop(2, 2), 25920);
            }
            run.begins(2, 1);
            run.due("key(97)", x.key(97), left[k] + 1);
            for (int i = 0; i < turns[k]; i++) {
                if (i % 2 == 0) {
                    run.due("rubs()", x.rubs(), left[k]);
                } else {
                    run.due("key(98)", x.key(98), left[k] + 1);
                }
            }
            for (int open = 2; open >= 0 && k < 4; open--) {
                run.due("ends()", x.ends(), open);
            }
        }
        if (run.calls != 511) {
            wrong++;
            System.out.println("the run has " + run.calls + " calls");
        }
        // among it stop(0, 2) 27360, stop(2, 2) 684, stop(3, 2) 2052, stop(4, 2) 6840
        run.due("digest()", x.digest(), -470587180482901118L);
        run.end();
    }

    private static RoomRuns begun(String name, String template) {
        RoomRuns run = new RoomRuns(name);
        run.tell(TWELVE);
        run.due("variable(0)", run.x.variable(0), 12);
        run.due("clear()", run.x.clear(), 12);
        run.tell(template);
        return run;
    }

    private static void keptAgainAndAgain() {
        RoomRuns run = begun("kept again and again", outer(18, "${2:$3$3$3${3:$4$4${4:$5$5$5}${5:$1$1$1}}}"));
        run.begins(1, 1);
        while (run.hasCalls(8)) {
            run.due("key(97)", run.x.key(97), 1);
            run.due("stop(2, 2)", run.x.stop(2, 2), 25920);
            run.due("held(2, 25919)", run.x.held(2, 25919), 'l');
            run.due("held(2, 25920)", run.x.held(2, 25920), -1);
            run.due("stop(3, 2)", run.x.stop(3, 2), 6480);
            run.due("stop(4, 2)", run.x.stop(4, 2), 1944);
            run.due("stop(5, 2)", run.x.stop(5, 2), 648);
            run.due("back()", run.x.back(), 2);
        }
        run.end();
    }

    /** Each key would leave a long one kept, where THE DOCUMENT has no room for it. */
    private static void keptAndRefused() {
        RoomRuns run = begun("kept and refused", "${3:" + "$A".repeat(16) + "${1:x${2:$3$3$3$3}}$2}");
        run.begins(1, 1);
        while (run.hasCalls(1)) {
            run.due("key(97)", run.x.key(97), FULL);
        }
        run.end();
    }

    private static void longTemplates() {
        RoomRuns run = begun("long templates", "$A".repeat(60));
        run.begins(MOST_CALLS - run.calls, FULL);
        run.end();
    }

    private static void manyOccurrences() {
        RoomRuns run = begun("many occurrences", "$A".repeat(20) + "$1".repeat(16));
        while (run.hasCalls(2)) {
            run.begins(1, 1);
            run.due("back()", run.x.back(), 1);
        }
        run.end();
    }

    /** All rows of all states grow as long as they can. */
    private static void longRows() {
        RoomRuns run = begun("long rows", "${1:" + "$A".repeat(19) + "$2${3:}}");
        run.begins(3, 1);
        while (run.hasCalls(5)) {
            run.due("nexts()", run.x.nexts(), 2);
            run.due("key(97)", run.x.key(97), 229);
            run.due("nexts()", run.x.nexts(), 3);
            run.due("prevs()", run.x.prevs(), 2);
            run.due("prevs()", run.x.prevs(), 1);
        }
        run.end();
    }

    private static void endedAtOnce() {
        RoomRuns run = begun("ended at once", "$A".repeat(20));
        while (run.hasCalls(2)) {
            run.begins(1, ENDED);
            run.due("back()", run.x.back(), 1);
        }
        run.end();
    }

    public static void main(String[] args) {
        longOnesKept();
        keptAgainAndAgain();
        keptAndRefused();
        longTemplates();
        manyOccurrences();
        longRows();
        endedAtOnce();
        if (wrong != 0) {
            System.exit(1);
        }
    }
}
