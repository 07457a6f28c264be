/** Every argument that is right, on many WHOLE TABLES, and ALL TABLES of every TONES, against the oracle. */
public final class SweepTest {
    private static final String[] TEXTS = {"0/", "-6/", "6 -6 6 -6 6/36 36 36 36", "6 6 6 6 6/36 36 36 36",
        "-6 -6 -6 -6 -6/36 36 36 36", "0 0 0 0 0/1 1 1 1", "0 0 0/1 1", "1 3/3", "2 2 2/1 3", "0 0 0 0/12 22 3",
        "3 -2 3 -2/16 5 9", "0 0/36", "6 -6/1", "1 1 1 1/1 36 1", "0 0 0 0 0/36 1 36 1", "2 -1 2 -1 2/4 6 4 6",
        "0 0 2 0 0/3 1 1 1", "-1 1 2 -1 1/2 1 1 3", "1 -1 0 1 -2/4 2 1 1"};

    private final ChainTables x = new ChainTables();
    private final Oracle oracle = new Oracle();

    public static void main(String[] args) {
        for (int i = 0; i < TEXTS.length; i++) {
            sweepText(TEXTS[i]);
        }
        for (int seed = 0; seed < 60; seed++) {
            sweepDrawn(1 + seed % 5, 977 * seed);
        }
        for (int bits = 1; bits < 1 << 13; bits++) {
            int marks = Integer.bitCount(bits);
            if (marks % 2 == 1 && marks <= 5) {
                sweepTones(bits);
            }
        }
        SweepTest once = new SweepTest();
        for (int sum = -12; sum <= 12; sum++) {
            for (int what = 0; what < 3; what++) {
                Check.due("census " + sum + " " + what, once.x.census(sum, what), once.oracle.census(sum, what));
            }
        }
        Check.end();
    }

    private static void sweepText(String text) {
        SweepTest both = new SweepTest();
        both.feed(text);
        Check.due("write " + text, both.x.write(0, text.length()), both.oracle.write(0, text.length()));
        both.sweepTable(text, both.x.told(0, true, -1));
    }

    private static void sweepDrawn(int n, int seed) {
        SweepTest both = new SweepTest();
        Check.due("draws", both.x.draws(0, n, seed), both.oracle.draws(0, n, seed));
        both.x.draws(1, Math.max(1, n - 1), seed + 1);
        both.oracle.draws(1, Math.max(1, n - 1), seed + 1);
        both.sweepTable(n + " drawn by " + seed, n);
    }

    private void feed(String text) {
        Texts.feed(x, text);
        for (int[] five : Texts.fives(text)) {
            oracle.feed(five[0], five[1], five[2], five[3], five[4]);
        }
    }

    private void sweepTable(String text, int n) {
        for (int k = 0; k <= n; k++) {
            sweepRows(text, k);
        }
        for (int i = 0; i < n; i++) {
            sweepRow(text, n, i);
        }
        for (int k = 0; k <= 8; k++) {
            Check.due(text + " powers " + k, x.powers(0, k), oracle.powers(0, k));
        }
        for (int what = 0; what < 3; what++) {
            Check.due(text + " rivals " + what, x.rivals(0, what, false), oracle.rivals(0, what, false));
            Check.due(text + " first rival " + what, x.rivals(0, what, true), oracle.rivals(0, what, true));
            Check.due(text + " alike 0 1 " + what, x.alike(0, 1, what), oracle.alike(0, 1, what));
        }
        for (int q = 1; q <= 50; q += 7) {
            Check.due(text + " nearest " + q, x.nearest(0, q), oracle.nearest(0, q));
            Check.due(text + " between " + q, x.between(0, 1, q), oracle.between(0, 1, q));
        }
        Check.due(text + " heard", x.heard(0), oracle.heard(0));
    }

    private void sweepRows(String text, int k) {
        for (int j = 0; j <= k; j++) {
            Check.due(text + " number " + k + " " + j, x.number(0, k, j), oracle.number(0, k, j));
        }
        for (int at = -20; at <= 20; at++) {
            Check.due(text + " value " + k + " " + at, x.value(0, k, at), oracle.value(0, k, at));
            for (int q = 1; q <= 50; q += 7) {
                Check.due(text + " below " + k + " " + at, x.below(0, k, at, q), oracle.below(0, k, at, q));
                int far = 50 * at;
                Check.due(text + " below " + k + " " + far, x.below(0, k, far, q), oracle.below(0, k, far, q));
            }
        }
        for (int i = 0; i < k; i++) {
            for (int q = 1; q <= 50; q += 7) {
                Check.due(text + " root " + k + " " + i + " " + q, x.root(0, k, i, q), oracle.root(0, k, i, q));
            }
        }
        Check.due(text + " whole " + k, x.whole(0, k), oracle.whole(0, k));
    }

    private void sweepRow(String text, int n, int i) {
        for (int j = 0; j < n; j++) {
            for (int what = 0; what < 2; what++) {
                Check.due(text + " inverse " + i + " " + j, x.inverse(0, i, j, what), oracle.inverse(0, i, j, what));
            }
            for (int k = 0; k <= 8; k++) {
                Check.due(text + " walks " + k, x.walks(0, k, i, j), oracle.walks(0, k, i, j));
                Check.due(text + " strike " + k, x.strike(0, i, k, j), oracle.strike(0, i, k, j));
            }
            for (int v = -7; v <= 37; v++) {
                Check.due(text + " would A", x.would(0, true, i, v, j), oracle.would(0, true, i, v, j));
                Check.due(text + " would C", x.would(0, false, i, v, j), oracle.would(0, false, i, v, j));
            }
        }
    }

    private static void sweepTones(int bits) {
        StringBuilder outer = new StringBuilder();
        StringBuilder inner = new StringBuilder();
        boolean isOuter = true;
        for (int v = -6; v <= 6; v++) {
            if ((bits >> v + 6 & 1) == 1) {
                (isOuter ? outer : inner).append(v).append(' ');
                isOuter = !isOuter;
            }
        }
        String text = outer.append('/').append(inner).toString();
        SweepTest both = new SweepTest();
        both.feed(text);
        Check.due(text, both.x.tones(text.length()), both.oracle.tones(text.length()));
        int count = both.oracle.all();
        Check.due(text + " all", both.x.all(), count);
        Check.due(text + " unique", both.x.unique(), both.oracle.unique());
        for (int v = -6; v <= 36; v++) {
            for (int what = 0; what < 4; what++) {
                Check.due(text + " some " + what + " " + v, both.x.some(what, v), both.oracle.some(what, v));
            }
        }
        for (int k = 0; k <= count; k++) {
            Check.due(text + " lay " + k, both.x.lay(k, 2), both.oracle.lay(k, 2));
            for (int at = -1; at < 20; at++) {
                Check.due(text + " laid " + k, both.x.read(2, at), both.oracle.read(2, at));
            }
        }
    }
}
