import com.sun.management.ThreadMXBean;
import java.lang.management.ManagementFactory;

/** All calls of a run live in one room: 512 calls of a kind take hardly any of it. */
public final class RoomTest {
    private static final int CALLS = 512;
    // What keep() keeps is made once a state; nothing else is made by a call.
    private static final long MOST_BYTES = 16384;

    private interface Call {
        long on(ChainTables x);
    }

    public static void main(String[] args) {
        ChainTables x = Texts.withTones("-6 -1 3 6/-3 0 5");
        Texts.write(x, 0, "6 -6 6 -6 6/36 36 36 36");
        Texts.write(x, 1, "0 0 0 0/12 22 3");
        Call[] calls = {y -> y.feed(0x30202020, 0, 0, 0, 0), y -> y.tones(20), y -> y.write(2, 5), y -> y.keep(),
            y -> y.undo(), y -> y.determinant(4, 1), y -> y.weight(3, 0), y -> y.entry(true, 3, 1),
            y -> y.ortho(4, 0, 0), y -> y.fraction(4, 19, 1), y -> y.weighed(7, 0), y -> y.kernel(7, 0),
            y -> y.letter(-1), y -> y.mirror(), y -> y.shift(0), y -> y.tune(true, 3, 6), y -> y.table(3, 5) ? 1 : 0,
            y -> y.read(0, -1), y -> y.number(0, 5, 0), y -> y.root(0, 5, 4, 50), y -> y.whole(0, 5),
            y -> y.inverse(0, 0, 4, 1), y -> y.alike(0, 0, 2), y -> y.between(0, 1, 50), y -> y.would(0, true, 0, 1, 0),
            y -> y.walks(0, 8, 4, 0), y -> y.powers(0, 8), y -> y.strike(0, 0, 8, 4), y -> y.draws(2, 5, 7),
            y -> y.rivals(0, 0, false), y -> y.census(0, 0), y -> y.join(3, 0, 1), y -> y.nearest(0, 50),
            y -> y.heard(1)};
        measure("four L", x, calls);
        ChainTables three = Texts.withTones("1 4 6/2 5");
        Call[] more = {y -> y.chain(0, 0, 0), y -> y.mass(1), y -> y.all(), y -> y.lay(6, 0), y -> y.unique(),
            y -> y.some(3, 0)};
        measure("three L", three, more);
        Check.end();
    }

    private static void measure(String what, ChainTables x, Call[] calls) {
        ThreadMXBean threads = (ThreadMXBean) ManagementFactory.getThreadMXBean();
        long thread = Thread.currentThread().getId();
        long sum = 0;
        for (int i = 0; i < calls.length; i++) {
            sum += calls[i].on(x);
            long before = threads.getThreadAllocatedBytes(thread);
            for (int time = 0; time < CALLS; time++) {
                sum += calls[i].on(x);
            }
            long taken = threads.getThreadAllocatedBytes(thread) - before;
            Check.due(what + ": call " + i + " takes little room (" + taken + ")", taken <= MOST_BYTES, true);
        }
        Check.due("answers were used", sum != 1, true);
    }
}
