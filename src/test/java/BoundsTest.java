import java.util.Arrays;
import java.util.Set;
import java.util.TreeSet;

/**
 * The bounds of every argument: the last one that is taken and the first one that is refused on
 * either side, the ends of int among them, for each count of TONES and of rows. What is answered,
 * and all that can be asked behind it, is compared with the oracle; a call that is refused must
 * leave all as it was.
 */
public final class BoundsTest {
    private static final long NOTHING = Long.MIN_VALUE;
    private static final int LOWEST = Integer.MIN_VALUE;
    private static final int HIGHEST = Integer.MAX_VALUE;
    private static final String[] TONES = {"5/", "2 6/3", "1 4 6/2 5", "-6 -1 3 6/-3 0 5"};
    private static final String[] TABLES = {"-6/", "2 -1/36", "1 -2 3/4 5", "3 3 -3 2/1 36 9",
        "6 -6 6 -6 6/36 36 36 36"};

    private final int tones;
    private final int rows;
    private final String untouched;

    /** How many L there are (0: no TONES), how many rows drawer 0 has (0: it is empty). */
    private BoundsTest(int tones, int rows) {
        this.tones = tones;
        this.rows = rows;
        untouched = begin().everything();
    }

    public static void main(String[] args) {
        for (int n = 0; n <= 4; n++) {
            BoundsTest test = new BoundsTest(n, 3);
            test.tape();
            test.polynomials();
            test.tableOfTones();
            test.tonesAnew();
            test.allTables();
        }
        for (int n = 0; n <= 5; n++) {
            BoundsTest test = new BoundsTest(3, n);
            test.drawers();
            test.polynomialsOfRows();
            test.roots();
            test.twoDrawers();
            test.changes();
            test.square();
            test.others();
        }
        Check.end();
    }

    /** Drawer 1 holds three rows, 2 one, 3 none; forty bytes lie on the tape; two states are kept. */
    private Both begin() {
        Both x = new Both().write(1, "0 1/2");
        if (tones > 0) {
            x.tones("-3/");
        }
        x.call("keep");
        x.write(2, "5/").write(1, "-1 0 1/7 8");
        if (tones > 0) {
            x.tones(TONES[tones - 1]);
        }
        if (rows > 0) {
            x.write(0, TABLES[rows - 1]);
        }
        x.call("keep");
        x.feed("-5 -2 4 6/-3 0 5    9  9 9 9 99999999999");
        return x;
    }

    /** The argument at a place, from below its least to above its most; none is taken if the most is below the least. */
    private void bounds(String name, long refused, int place, int least, int most, Object... arguments) {
        Set<Integer> probes = new TreeSet<>(Set.of(LOWEST, LOWEST + 1, -65536, -1, 0, 1, 65536, HIGHEST - 1, HIGHEST));
        for (int step = -2; step <= 2; step++) {
            addProbe(probes, (long) least + step);
            addProbe(probes, (long) most + step);
        }
        for (int v : probes) {
            Object[] with = arguments.clone();
            with[place] = v;
            Both x = begin();
            boolean taken = x.call(name, with) != refused;
            String call = tones + " L, " + rows + " rows: " + name + Arrays.toString(with);
            Check.due(call + " is taken", taken, v >= least && v <= most);
            String behind = x.everything();
            if (!taken) {
                Check.due(call + " leaves all as it was", behind, untouched);
            }
        }
    }

    private static void addProbe(Set<Integer> probes, long v) {
        if (v >= LOWEST && v <= HIGHEST) {
            probes.add((int) v);
        }
    }

    /** The last bound of what is there, or none at all without TONES. */
    private int most(int most) {
        return tones > 0 ? most : LOWEST;
    }

    private int least(int least) {
        return tones > 0 ? least : HIGHEST;
    }

    // Promises 3, 4, 17, 22
    private void tape() {
        bounds("tones", -1, 0, 1, 40, 0);
        bounds("write", -1, 1, 1, 40, 3, 0);
        bounds("write", -1, 0, 0, 3, 0, 16);
        bounds("letter", -1, 0, least(-1), most(HIGHEST), 0);
        int length = tones == 0 ? 0 : TONES[tones - 1].length();
        bounds("letter", -3, 0, LOWEST, tones == 0 ? HIGHEST : length - 1, 0);
        Set<Integer> probes = new TreeSet<>(Set.of(LOWEST, -10, 1 << 16, HIGHEST));
        for (int what = -2; what < 40; what++) {
            probes.add(what);
        }
        for (int what : probes) {
            Both x = begin();
            boolean asked = what >= 0 && what < 4 || what >= 10 && what < 10 + tones || what >= 20 && what < 19 + tones;
            Check.due("count(" + what + ") of " + tones, x.call("count", what) != LOWEST, asked);
            Check.due("count(" + what + ") leaves all as it was", x.everything(), untouched);
        }
    }

    // Promises 5 to 8, 14
    private void polynomials() {
        bounds("polynomial", NOTHING, 1, least(0), most(tones), true, 0);
        bounds("polynomial", NOTHING, 1, least(0), most(tones - 1), false, 0);
        bounds("moment", NOTHING, 0, least(0), most(7), 0);
        for (int what = 0; what < 2; what++) {
            bounds("weight", NOTHING, 0, least(0), most(tones - 1), 0, what);
            bounds("weighed", NOTHING, 0, least(0), most(7), 0, what);
        }
        bounds("weight", NOTHING, 1, least(0), most(1), 0, 0);
        bounds("weighed", NOTHING, 1, least(0), most(1), 7, 0);
        for (int s = 0; s < 2; s++) {
            bounds("determinant", NOTHING, 0, least(0), most(4), 0, s);
        }
        for (int k = 0; k <= 4; k++) {
            bounds("determinant", NOTHING, 1, least(0), most(1), k, 0);
        }
        bounds("determinant", NOTHING, 1, 0, LOWEST, 5, 0);
        bounds("determinant", NOTHING, 1, 0, LOWEST, -1, 0);
    }

    // Promises 9 to 13, 15
    private void tableOfTones() {
        for (int what = 0; what < 2; what++) {
            bounds("entry", NOTHING, 1, least(0), most(tones - 1), true, 0, what);
            bounds("entry", NOTHING, 1, least(0), most(tones - 2), false, 0, what);
            bounds("ortho", NOTHING, 0, least(0), most(tones), 0, 0, what);
            bounds("fraction", NOTHING, 0, least(1), most(tones), 0, -20, what);
            bounds("fraction", NOTHING, 1, least(-20), most(20), 1, 0, what);
            bounds("chain", NOTHING, 1, least(0), most(tones - 1), 0, 0, what);
            bounds("chain", NOTHING, 1, least(0), most(tones - 1), 1, 0, what);
            bounds("chain", NOTHING, 0, least(0), most(1), 0, 0, what);
            bounds("kernel", NOTHING, 0, least(-8), most(8), 0, what);
        }
        for (int k = 0; k <= tones; k++) {
            bounds("ortho", NOTHING, 1, least(0), most(k), k, 0, 0);
        }
        bounds("fraction", NOTHING, 1, least(-20), most(20), tones, 0, 0);
        bounds("entry", NOTHING, 2, least(0), most(1), true, 0, 0);
        bounds("entry", NOTHING, 2, tones > 1 ? 0 : HIGHEST, tones > 1 ? 1 : LOWEST, false, 0, 0);
        bounds("ortho", NOTHING, 2, least(0), most(1), 0, 0, 0);
        bounds("fraction", NOTHING, 2, least(0), most(1), 1, 0, 0);
        bounds("chain", NOTHING, 2, least(0), most(1), 0, 0, 0);
        bounds("mass", NOTHING, 0, least(0), most(1), 0);
        bounds("kernel", NOTHING, 1, least(0), most(1), 0, 0);
    }

    // Promises 18 to 20
    private void tonesAnew() {
        bounds("shift", -1, 0, least(-12), most(12), 0);
        for (int i = 0; i < tones; i++) {
            bounds("tune", -1, 2, -6, 6, true, i, 0);
        }
        for (int i = 0; i < tones - 1; i++) {
            bounds("tune", -1, 2, -6, 6, false, i, 0);
        }
        bounds("tune", -1, 1, least(0), most(tones - 1), true, 0, 6);
        bounds("tune", -1, 1, least(0), most(tones - 2), false, 0, 6);
    }

    // Promises 44 to 47
    private void allTables() {
        int[] count = {0, 1, 3, 7, 0};
        bounds("lay", -1, 0, least(0), most(HIGHEST), 0, 3);
        bounds("lay", -1, 1, least(0), most(3), 0, 0);
        boolean some = tones > 0 && tones < 4;
        bounds("lay", -3, 0, LOWEST, some ? count[tones] - 1 : HIGHEST, 0, 3);
        bounds("lay", -2, 0, LOWEST, tones == 4 ? -1 : HIGHEST, 0, 3);
        bounds("some", -1, 0, least(0), most(3), 0, 4);
        for (int what = 0; what < 4; what++) {
            bounds("some", -1, 1, least(LOWEST), most(HIGHEST), what, 0);
        }
    }

    // Promises 21, 23 to 25, 48
    private void drawers() {
        bounds("table", 0, 0, 0, 3, 0, 1);
        bounds("table", 0, 0, 0, 3, 0, 5);
        bounds("table", 0, 1, 1, 5, 0, 0);
        int last = rows == 0 ? HIGHEST : TABLES[rows - 1].length() - 1;
        bounds("read", -1, 0, 0, 3, 0, 0);
        bounds("read", -1, 1, -1, HIGHEST, 0, 0);
        bounds("read", -3, 1, LOWEST, last, 0, 0);
        bounds("read", -2, 1, LOWEST, rows == 0 ? -2 : HIGHEST, 0, 0);
        bounds("put", -99, 0, 0, 3, 0, true, 0, 0);
        bounds("told", -99, 0, 0, 3, 0, true, -1);
        bounds("heard", -1, 0, 0, 3, 0);
        if (rows == 0) {
            bounds("put", -100, 2, 0, LOWEST, 0, true, 0, 0);
            bounds("put", -100, 3, 0, LOWEST, 0, false, 0, 0);
            bounds("told", -100, 2, 0, LOWEST, 0, true, 0);
            bounds("told", -100, 2, 0, LOWEST, 0, false, 0);
            return;
        }
        bounds("put", -99, 2, 0, rows - 1, 0, true, 0, 1);
        bounds("put", -99, 2, 0, rows - 2, 0, false, 0, 1);
        bounds("told", -99, 2, -1, rows - 1, 0, true, 0);
        bounds("told", -99, 2, -1, Math.max(-1, rows - 2), 0, false, 0);
        for (int i = 0; i < rows; i++) {
            bounds("put", -101, 3, -6, 6, 0, true, i, 0);
        }
        for (int i = 0; i < rows - 1; i++) {
            bounds("put", -101, 3, 1, 36, 0, false, i, 0);
        }
    }

    private int mostOfRows(int most) {
        return rows > 0 ? most : LOWEST;
    }

    // Promises 26, 27, 35
    private void polynomialsOfRows() {
        int d = rows > 0 ? 0 : 1;
        bounds("number", NOTHING, 0, d, 2, 0, 0, 0);
        bounds("value", NOTHING, 0, d, 2, 0, 0, 0);
        bounds("would", NOTHING, 0, d, 2, 0, true, 0, 0, 0);
        bounds("number", NOTHING, 1, 0, mostOfRows(rows), 0, 0, 0);
        bounds("value", NOTHING, 1, 0, mostOfRows(rows), 0, 0, 20);
        bounds("value", NOTHING, 2, -20, mostOfRows(20), 0, 0, 0);
        bounds("value", NOTHING, 2, -20, mostOfRows(20), 0, rows, 0);
        for (int k = 0; k <= rows; k++) {
            bounds("number", NOTHING, 2, 0, mostOfRows(k), 0, k, 0);
        }
        bounds("would", NOTHING, 2, 0, mostOfRows(rows - 1), 0, true, 0, -6, 0);
        bounds("would", NOTHING, 2, 0, mostOfRows(rows - 2), 0, false, 0, 36, 0);
        bounds("would", NOTHING, 3, -6, mostOfRows(6), 0, true, 0, 0, 0);
        if (rows > 1) {
            bounds("would", NOTHING, 3, 1, 36, 0, false, rows - 2, 0, 0);
        }
        bounds("would", NOTHING, 4, 0, mostOfRows(rows), 0, true, 0, 0, 0);
    }

    // Promises 28 to 30, 43
    private void roots() {
        bounds("below", -1, 0, 0, 3, 0, 1, 0, 1);
        bounds("below", -1, 2, -1000, 1000, 0, 1, 0, 1);
        bounds("below", -1, 2, -1000, 1000, 0, Math.max(1, rows), 0, 50);
        bounds("below", -1, 3, 1, 50, 0, Math.max(1, rows), 1000, 0);
        bounds("root", -100001, 0, 0, 3, 0, 1, 0, 1);
        bounds("root", -100001, 3, 1, 50, 0, Math.max(1, rows), 0, 0);
        bounds("whole", -1, 0, 0, 3, 0, 1);
        bounds("nearest", -1, 0, 0, 3, 0, 1);
        bounds("nearest", -1, 1, 1, 50, 0, 0);
        if (rows == 0) {
            bounds("below", -2, 1, 0, LOWEST, 0, 0, 0, 1);
            bounds("root", -100000, 1, 0, LOWEST, 0, 0, 0, 1);
            bounds("root", -100000, 2, 0, LOWEST, 0, 1, 0, 1);
            bounds("whole", -2, 1, 0, LOWEST, 0, 0);
            return;
        }
        bounds("below", -1, 1, 1, rows, 0, 0, 0, 1);
        bounds("root", -100001, 1, 1, rows, 0, 0, 0, 1);
        for (int k = 1; k <= rows; k++) {
            bounds("root", -100001, 2, 0, k - 1, 0, k, 0, 50);
        }
        bounds("whole", -1, 1, 1, rows, 0, 0);
    }

    // Promises 32, 33, 42
    private void twoDrawers() {
        for (int place = 0; place < 2; place++) {
            for (int what = 0; what < 3; what++) {
                bounds("alike", -1, place, 0, 3, 0, 0, what);
            }
            bounds("between", -1, place, 0, 3, 0, 0, 1);
            bounds("between", -1, place, 0, 3, 1, 1, 50);
            bounds("join", -1, place, 0, 3, 0, 0, 1);
            bounds("join", -1, place, 0, 3, 2, 2, 36);
        }
        for (int e = 0; e < 4; e++) {
            bounds("alike", -1, 2, 0, 2, 0, e, 0);
            bounds("between", -1, 2, 1, 50, 0, e, 0);
            bounds("join", -1, 2, 1, 36, 0, e, 0);
            bounds("join", -1, 2, 1, 36, 2, e, 0);
        }
    }

    // Promise 34
    private void changes() {
        for (int how = 0; how < 5; how++) {
            bounds("change", -1, 0, 0, 3, 0, how);
        }
        for (int d = 0; d < 4; d++) {
            bounds("change", -1, 1, 0, 4, d, 0);
        }
    }

    // Promises 31, 36 to 38
    private void square() {
        int d = rows > 0 ? 0 : 1;
        int last = rows - 1;
        int row = Math.max(0, last);
        bounds("inverse", NOTHING, 0, d, 2, 0, 0, 0, 0);
        bounds("walks", NOTHING, 0, d, 2, 0, 0, 0, 0);
        bounds("powers", NOTHING, 0, d, 2, 0, 0);
        bounds("strike", NOTHING, 0, d, 2, 0, 0, 0, 0);
        bounds("inverse", NOTHING, 1, 0, mostOfRows(last), 0, 0, row, 0);
        bounds("inverse", NOTHING, 2, 0, mostOfRows(last), 0, row, 0, 1);
        bounds("inverse", NOTHING, 3, 0, mostOfRows(1), 0, row, 0, 0);
        bounds("walks", NOTHING, 1, 0, mostOfRows(8), 0, 0, row, 0);
        bounds("walks", NOTHING, 2, 0, mostOfRows(last), 0, 8, 0, 0);
        bounds("walks", NOTHING, 3, 0, mostOfRows(last), 0, 8, row, 0);
        bounds("powers", NOTHING, 1, 0, mostOfRows(8), 0, 0);
        bounds("strike", NOTHING, 1, 0, mostOfRows(last), 0, 0, 8, row);
        bounds("strike", NOTHING, 2, 0, mostOfRows(8), 0, row, 0, 0);
        bounds("strike", NOTHING, 3, 0, mostOfRows(last), 0, 0, 8, 0);
    }

    // Promises 39 to 41
    private void others() {
        bounds("draws", -1, 0, 0, 3, 0, 5, 9);
        bounds("draws", -1, 1, 1, 5, 0, 0, 65535);
        bounds("draws", -1, 2, LOWEST, HIGHEST, 0, 5, 0);
        for (int what = 0; what < 3; what++) {
            bounds("rivals", -1, 0, 0, 3, 0, what, false);
            bounds("census", -1, 0, -12, 12, 0, what);
        }
        bounds("rivals", -1, 1, 0, 2, 0, 0, false);
        bounds("census", -1, 1, 0, 2, -12, 0);
        bounds("census", -1, 1, 0, 2, 12, 0);
    }
}
