import java.math.BigInteger;
import java.util.ArrayList;
import java.util.HashMap;
import java.util.List;
import java.util.Map;
import java.util.TreeMap;
import java.util.regex.Matcher;
import java.util.regex.Pattern;

/**
 * The document once more, with the Java library and by other ways: texts by a pattern, roots by
 * Descartes' changes of sign, TONES by their weights, ALL TABLES by trying each. Its methods bear
 * the names of the program's, and answer the same calls.
 */
final class Oracle {
    private static final long NOTHING = Long.MIN_VALUE;
    private static final Pattern TOKEN = Pattern.compile("-?[0-9]+|(?s:.)");
    private static final Map<String, List<Table>> ALL = new HashMap<>();

    /** A WHOLE TABLE; its rows are never changed. */
    private record Table(int[] a, int[] c) {
        int rows() {
            return a.length;
        }

        boolean isRight() {
            boolean right = a.length >= 1 && a.length <= 5 && c.length == a.length - 1;
            for (int v : a) {
                right &= v >= -6 && v <= 6;
            }
            for (int v : c) {
                right &= v >= 1 && v <= 36;
            }
            return right;
        }

        Table with(boolean first, int i, int v) {
            Table made = new Table(a.clone(), c.clone());
            (first ? made.a : made.c)[i] = v;
            return made;
        }

        Table part(int from, int count) {
            int[] as = java.util.Arrays.copyOfRange(a, from, from + count);
            int[] cs = count == 0 ? new int[0] : java.util.Arrays.copyOfRange(c, from, from + count - 1);
            return new Table(as, cs);
        }

        Table turned() {
            Table made = new Table(a.clone(), c.clone());
            for (int i = 0; i < a.length; i++) {
                made.a[i] = a[a.length - 1 - i];
            }
            for (int i = 0; i < c.length; i++) {
                made.c[i] = c[c.length - 1 - i];
            }
            return made;
        }

        boolean same(Table other) {
            return java.util.Arrays.equals(a, other.a) && java.util.Arrays.equals(c, other.c);
        }

        /** Of all rows: taken from the last row back to the first. */
        long[] polynomial() {
            long[] after = {0};
            long[] made = {1};
            for (int i = a.length - 1; i >= 0; i--) {
                long[] next = new long[made.length + 1];
                for (int j = 0; j < made.length; j++) {
                    next[j + 1] += made[j];
                    next[j] -= a[i] * made[j];
                }
                for (int j = 0; i < c.length && j < after.length; j++) {
                    next[j] -= c[i] * after[j];
                }
                after = made;
                made = next;
            }
            return made;
        }

        /** Roots of all rows below p through q. */
        int rootsBelow(int p, int q) {
            long[] moved = movedBy(p, q);
            int changes = 0;
            int sign = 0;
            int zero = moved[0] == 0 ? 1 : 0;
            for (long number : moved) {
                if (number != 0) {
                    changes += sign == -Long.signum(number) ? 1 : 0;
                    sign = Long.signum(number);
                }
            }
            return a.length - zero - changes;
        }

        private long[] movedBy(int p, int q) {
            long[] numbers = polynomial();
            long scale = 1;
            for (int j = a.length; j >= 0; j--) {
                numbers[j] *= scale;
                scale *= q;
            }
            for (int from = 0; from < a.length; from++) {
                for (int j = a.length - 1; j >= from; j--) {
                    numbers[j] = Math.addExact(numbers[j], Math.multiplyExact((long) p, numbers[j + 1]));
                }
            }
            return numbers;
        }

        int cutRoot(int i, int q) {
            int parts = -20 * q;
            while (rootsBelow(parts + 1, q) <= i) {
                parts++;
            }
            return parts;
        }

        int[] cutRoots(int q) {
            int[] made = new int[a.length];
            for (int i = 0; i < a.length; i++) {
                made[i] = cutRoot(i, q);
            }
            return made;
        }

        List<Integer> wholeRoots() {
            List<Integer> made = new ArrayList<>();
            for (int x = -30; x <= 30; x++) {
                if (rootsBelow(x + 1, 1) - rootsBelow(x, 1) > 0 && movedBy(x, 1)[0] == 0) {
                    made.add(x);
                }
            }
            return made;
        }

        boolean allWhole() {
            return wholeRoots().size() == rows();
        }

        boolean hasRootZero() {
            return polynomial()[0] == 0;
        }

        BigInteger[][] square() {
            BigInteger[][] made = new BigInteger[rows()][rows()];
            for (int i = 0; i < rows(); i++) {
                for (int j = 0; j < rows(); j++) {
                    made[i][j] = BigInteger.valueOf(i == j ? a[i] : j == i + 1 ? 1 : i == j + 1 ? c[j] : 0);
                }
            }
            return made;
        }

        String text() {
            return row(a) + "/" + row(c);
        }

        private static String row(int[] numbers) {
            return java.util.Arrays.toString(numbers).replaceAll("[\\[\\],]", "");
        }
    }

    private record State(int[] outer, int[] inner, Table[] drawers) {
    }

    private final StringBuilder tape = new StringBuilder();
    private int[] outer = new int[0];
    private int[] inner = new int[0];
    private Table[] drawers = new Table[4];
    private final List<State> kept = new ArrayList<>();

    private static boolean in(int v, int least, int most) {
        return least <= v && v <= most;
    }

    private boolean tonesThere() {
        return outer.length > 0;
    }

    private ToneOracle made() {
        return new ToneOracle(outer, inner);
    }

    public int feed(int a, int b, int c, int d, int e) {
        if (tape.length() > 100) {
            return -1;
        }
        for (int four : new int[] {a, b, c, d, e}) {
            for (byte one : java.nio.ByteBuffer.allocate(4).putInt(four).array()) {
                tape.append((char) (one & 255));
            }
        }
        return tape.length();
    }

    public int tones(int n) {
        if (!in(n, 1, 60) || tape.length() < n) {
            return -1;
        }
        List<List<Integer>> rows = new ArrayList<>();
        int fault = parse(n, true, rows);
        if (fault != 0) {
            return fault;
        }
        outer = rows.get(0).stream().mapToInt(v -> v).toArray();
        inner = rows.get(1).stream().mapToInt(v -> v).toArray();
        return outer.length;
    }

    private int parse(int n, boolean ofTones, List<List<Integer>> rows) {
        String text = tape.substring(0, n);
        tape.setLength(0);
        List<Integer> first = new ArrayList<>();
        List<Integer> second = new ArrayList<>();
        rows.add(first);
        rows.add(second);
        boolean slash = false;
        int numberEnd = -1;
        Matcher tokens = TOKEN.matcher(text);
        while (tokens.find()) {
            String token = tokens.group();
            int fault = 0;
            if (token.equals("/")) {
                fault = slash || first.isEmpty() ? 1 : 0;
                slash = true;
            } else if (token.matches("-?[0-9]+")) {
                fault = tokens.start() == numberEnd ? 1 : numberFault(new BigInteger(token), ofTones, slash, first, second);
                numberEnd = tokens.end();
            } else if (!token.equals(" ")) {
                fault = 1;
            }
            if (fault != 0) {
                return -1000 * fault - tokens.start();
            }
        }
        return slash && second.size() + 1 == first.size() ? 0 : -1000 - n;
    }

    private static int numberFault(BigInteger number, boolean ofTones, boolean slash, List<Integer> first,
            List<Integer> second) {
        int least = slash && !ofTones ? 1 : -6;
        int most = slash && !ofTones ? 36 : 6;
        if (number.compareTo(BigInteger.valueOf(least)) < 0 || number.compareTo(BigInteger.valueOf(most)) > 0) {
            return 2;
        }
        int v = number.intValueExact();
        List<Integer> row = slash ? second : first;
        int room = slash ? first.size() - 1 : ofTones ? 4 : 5;
        if (row.size() == room) {
            return 3;
        }
        if (ofTones && !row.isEmpty() && v <= row.get(row.size() - 1)) {
            return 4;
        }
        if (ofTones && slash && !(first.get(row.size()) < v && v < first.get(row.size() + 1))) {
            return 5;
        }
        row.add(v);
        return 0;
    }

    public int count(int what) {
        Map<Integer, Integer> told = new TreeMap<>();
        int bits = 0;
        for (int d = 0; d < 4; d++) {
            bits += drawers[d] == null ? 0 : 1 << d;
        }
        told.put(0, outer.length);
        told.put(1, bits);
        told.put(2, tape.length());
        told.put(3, kept.size());
        for (int i = 0; i < outer.length; i++) {
            told.put(10 + i, outer[i]);
        }
        for (int i = 0; i < inner.length; i++) {
            told.put(20 + i, inner[i]);
        }
        return told.getOrDefault(what, Integer.MIN_VALUE);
    }

    public long polynomial(boolean first, int k) {
        if (!tonesThere()) {
            return NOTHING;
        }
        Ratio[] row = first ? made().upper : made().lower;
        return in(k, 0, row.length - 1) ? row[k].whole() : NOTHING;
    }

    public long moment(int k) {
        return tonesThere() && in(k, 0, 7) ? made().moments[k].whole() : NOTHING;
    }

    public long weight(int i, int what) {
        boolean such = in(i, 0, outer.length - 1) && in(what, 0, 1);
        return such ? made().weights[i].part(what) : NOTHING;
    }

    public long determinant(int k, int s) {
        boolean such = tonesThere() && in(k, 0, 4) && in(s, 0, 1);
        return such ? made().determinant(k, s).whole() : NOTHING;
    }

    public long entry(boolean first, int i, int what) {
        boolean such = in(i, 0, outer.length - (first ? 1 : 2)) && in(what, 0, 1);
        return such ? (first ? made().a : made().c)[i].part(what) : NOTHING;
    }

    public long ortho(int k, int j, int what) {
        boolean such = tonesThere() && in(k, 0, outer.length) && in(j, 0, k) && in(what, 0, 1);
        return such ? made().polynomials[k][j].part(what) : NOTHING;
    }

    public long fraction(int k, int x, int what) {
        if (!in(k, 1, outer.length) || !in(x, -20, 20) || !in(what, 0, 1)) {
            return NOTHING;
        }
        Ratio cut = made().fraction(k, x);
        return cut == null ? -2 : cut.part(what);
    }

    public long chain(int kind, int i, int what) {
        if (!in(kind, 0, 1) || !in(i, 0, outer.length - 1) || !in(what, 0, 1)) {
            return NOTHING;
        }
        return made().hasChain() ? made().chain()[kind * outer.length + i].part(what) : -2;
    }

    public long mass(int what) {
        if (!tonesThere() || !in(what, 0, 1)) {
            return NOTHING;
        }
        if (!made().hasChain()) {
            return -2;
        }
        Ratio sum = Ratio.ZERO;
        for (int i = 0; i < outer.length; i++) {
            sum = sum.plus(made().chain()[i]);
        }
        return sum.part(what);
    }

    public long weighed(int k, int what) {
        if (!tonesThere() || !in(k, 0, 7) || !in(what, 0, 1)) {
            return NOTHING;
        }
        return made().moments[k].part(what);
    }

    public long kernel(int x, int what) {
        return tonesThere() && in(x, -8, 8) && in(what, 0, 1) ? made().kernel(x).part(what) : NOTHING;
    }

    public long apart() {
        if (!tonesThere()) {
            return NOTHING;
        }
        BigInteger product = BigInteger.ONE;
        for (int i = 0; i < outer.length; i++) {
            for (int j = 0; j < i; j++) {
                product = product.multiply(BigInteger.valueOf(outer[i] - outer[j]).pow(2));
            }
        }
        return product.longValueExact();
    }

    private static int byteOf(String text, int k) {
        return k == -1 ? text.length() : k >= text.length() ? -3 : text.charAt(k);
    }

    public int letter(int k) {
        return tonesThere() && k >= -1 ? byteOf(Table.row(outer) + "/" + Table.row(inner), k) : -1;
    }

    public int mirror() {
        if (!tonesThere()) {
            return -1;
        }
        outer = java.util.Arrays.stream(outer).map(v -> -v).sorted().toArray();
        inner = java.util.Arrays.stream(inner).map(v -> -v).sorted().toArray();
        return outer.length;
    }

    public int shift(int by) {
        if (!tonesThere() || !in(by, -12, 12)) {
            return -1;
        }
        int[] up = java.util.Arrays.stream(outer).map(v -> v + by).toArray();
        int[] low = java.util.Arrays.stream(inner).map(v -> v + by).toArray();
        return take(up, low);
    }

    public int tune(boolean first, int i, int v) {
        if (!tonesThere() || !in(i, 0, outer.length - (first ? 1 : 2)) || !in(v, -6, 6)) {
            return -1;
        }
        int[] up = outer.clone();
        int[] low = inner.clone();
        (first ? up : low)[i] = v;
        return take(up, low);
    }

    /** Right if both rows, told in turn, rise within bounds. */
    private int take(int[] up, int[] low) {
        int before = -7;
        for (int i = 0; i < up.length + low.length; i++) {
            int v = i % 2 == 0 ? up[i / 2] : low[i / 2];
            if (v <= before || v > 6) {
                return -3;
            }
            before = v;
        }
        outer = up;
        inner = low;
        return up.length;
    }

    private Table drawer(int d) {
        return in(d, 0, 3) ? drawers[d] : null;
    }

    public boolean table(int d, int n) {
        if (!in(d, 0, 3) || !in(n, 1, 5)) {
            return false;
        }
        int[] c = new int[n - 1];
        java.util.Arrays.fill(c, 1);
        drawers[d] = new Table(new int[n], c);
        return true;
    }

    public int write(int d, int n) {
        if (!in(d, 0, 3) || !in(n, 1, 60) || tape.length() < n) {
            return -1;
        }
        List<List<Integer>> rows = new ArrayList<>();
        int fault = parse(n, false, rows);
        if (fault != 0) {
            return fault;
        }
        drawers[d] = new Table(rows.get(0).stream().mapToInt(v -> v).toArray(),
                rows.get(1).stream().mapToInt(v -> v).toArray());
        return drawers[d].rows();
    }

    public int read(int d, int k) {
        if (!in(d, 0, 3) || k < -1) {
            return -1;
        }
        return drawers[d] == null ? -2 : byteOf(drawers[d].text(), k);
    }

    public int put(int d, boolean first, int i, int v) {
        if (!in(d, 0, 3)) {
            return -99;
        }
        if (drawers[d] == null) {
            return -100;
        }
        int[] row = first ? drawers[d].a : drawers[d].c;
        if (!in(i, 0, row.length - 1)) {
            return -99;
        }
        Table with = drawers[d].with(first, i, v);
        if (!with.isRight()) {
            return -101;
        }
        int was = row[i];
        drawers[d] = with;
        return was;
    }

    public int told(int d, boolean first, int i) {
        if (!in(d, 0, 3)) {
            return -99;
        }
        if (drawers[d] == null) {
            return -100;
        }
        int[] row = first ? drawers[d].a : drawers[d].c;
        return i == -1 ? drawers[d].rows() : in(i, 0, row.length - 1) ? row[i] : -99;
    }

    public long number(int d, int k, int j) {
        Table t = drawer(d);
        return t != null && in(k, 0, t.rows()) && in(j, 0, k) ? t.part(0, k).polynomial()[j] : NOTHING;
    }

    public long value(int d, int k, int x) {
        Table t = drawer(d);
        return t != null && in(k, 0, t.rows()) && in(x, -20, 20) ? t.part(0, k).movedBy(x, 1)[0] : NOTHING;
    }

    public int below(int d, int k, int p, int q) {
        if (!in(d, 0, 3) || !in(p, -1000, 1000) || !in(q, 1, 50)) {
            return -1;
        }
        Table t = drawers[d];
        return t == null ? -2 : in(k, 1, t.rows()) ? t.part(0, k).rootsBelow(p, q) : -1;
    }

    public int root(int d, int k, int i, int q) {
        if (!in(d, 0, 3) || !in(q, 1, 50)) {
            return -100001;
        }
        Table t = drawers[d];
        if (t == null) {
            return -100000;
        }
        return in(k, 1, t.rows()) && in(i, 0, k - 1) ? t.part(0, k).cutRoot(i, q) : -100001;
    }

    public int whole(int d, int k) {
        if (!in(d, 0, 3)) {
            return -1;
        }
        Table t = drawers[d];
        return t == null ? -2 : in(k, 1, t.rows()) ? t.part(0, k).wholeRoots().size() : -1;
    }

    public long inverse(int d, int i, int j, int what) {
        Table t = drawer(d);
        if (t == null || !in(i, 0, t.rows() - 1) || !in(j, 0, t.rows() - 1) || !in(what, 0, 1)) {
            return NOTHING;
        }
        Ratio all = Ratio.determinant(ratios(t.square(), -1, -1));
        if (all.sign() == 0) {
            return -2;
        }
        // A stretched table has the same diagonal, and the two beside it multiply to the same.
        Ratio one = Ratio.determinant(ratios(t.square(), i, j)).through(all);
        Ratio other = Ratio.determinant(ratios(t.square(), j, i)).through(all);
        return (i == j ? one : one.times(other)).part(what);
    }

    private static Ratio[][] ratios(BigInteger[][] square, int row, int column) {
        int n = square.length - (row < 0 ? 0 : 1);
        Ratio[][] made = new Ratio[n][n];
        for (int i = 0; i < n; i++) {
            for (int j = 0; j < n; j++) {
                int fromRow = row >= 0 && i >= row ? i + 1 : i;
                int fromColumn = column >= 0 && j >= column ? j + 1 : j;
                made[i][j] = Ratio.of(square[fromRow][fromColumn].longValueExact());
            }
        }
        return made;
    }

    public int alike(int d, int e, int what) {
        if (!in(d, 0, 3) || !in(e, 0, 3) || !in(what, 0, 2)) {
            return -1;
        }
        Table one = drawers[d];
        Table other = drawers[e];
        if (one == null || other == null) {
            return -2;
        }
        if (what == 0) {
            return java.util.Arrays.equals(one.polynomial(), other.polynomial()) ? 1 : 0;
        }
        if (what == 1) {
            return one.same(other.turned()) ? 1 : 0;
        }
        List<Integer> cuts = java.util.Arrays.stream(other.cutRoots(50)).boxed().toList();
        return (int) java.util.Arrays.stream(one.cutRoots(50)).filter(cuts::contains).count();
    }

    public int between(int d, int e, int q) {
        if (!in(d, 0, 3) || !in(e, 0, 3) || !in(q, 1, 50)) {
            return -1;
        }
        Table one = drawers[d];
        Table other = drawers[e];
        if (one == null || other == null) {
            return -2;
        }
        if (other.rows() + 1 != one.rows()) {
            return -3;
        }
        int[] wide = one.cutRoots(q);
        int[] narrow = other.cutRoots(q);
        boolean all = true;
        for (int i = 0; i < narrow.length; i++) {
            all &= in(narrow[i], wide[i], wide[i + 1]);
        }
        return all ? 1 : 0;
    }

    public int change(int d, int how) {
        if (!in(d, 0, 3) || !in(how, 0, 4)) {
            return -1;
        }
        Table t = drawers[d];
        if (t == null) {
            return -2;
        }
        Table changed = switch (how) {
            case 0 -> t.turned();
            case 1 -> new Table(java.util.Arrays.stream(t.a).map(v -> v + 1).toArray(), t.c);
            case 2 -> new Table(java.util.Arrays.stream(t.a).map(v -> v - 1).toArray(), t.c);
            case 3 -> t.part(0, t.rows() - 1);
            default -> t.part(1, t.rows() - 1);
        };
        if (!changed.isRight()) {
            return -3;
        }
        drawers[d] = changed;
        return changed.rows();
    }

    public long would(int d, boolean first, int i, int v, int j) {
        Table t = drawer(d);
        if (t == null || !in(i, 0, t.rows() - (first ? 1 : 2)) || !in(j, 0, t.rows())) {
            return NOTHING;
        }
        Table with = t.with(first, i, v);
        return with.isRight() ? with.polynomial()[j] : NOTHING;
    }

    private static BigInteger[][] power(Table t, int k) {
        int n = t.rows();
        BigInteger[][] square = t.square();
        BigInteger[][] made = new BigInteger[n][n];
        for (int i = 0; i < n; i++) {
            for (int j = 0; j < n; j++) {
                made[i][j] = BigInteger.valueOf(i == j ? 1 : 0);
            }
        }
        for (int time = 0; time < k; time++) {
            BigInteger[][] next = new BigInteger[n][n];
            for (int i = 0; i < n; i++) {
                for (int j = 0; j < n; j++) {
                    next[i][j] = BigInteger.ZERO;
                    for (int m = 0; m < n; m++) {
                        next[i][j] = next[i][j].add(made[i][m].multiply(square[m][j]));
                    }
                }
            }
            made = next;
        }
        return made;
    }

    public long walks(int d, int k, int i, int j) {
        Table t = drawer(d);
        boolean such = t != null && in(k, 0, 8) && in(i, 0, t.rows() - 1) && in(j, 0, t.rows() - 1);
        return such ? power(t, k)[i][j].longValueExact() : NOTHING;
    }

    /** By the numbers of the polynomial alone (Newton's way). */
    public long powers(int d, int k) {
        Table t = drawer(d);
        if (t == null || !in(k, 0, 8)) {
            return NOTHING;
        }
        int n = t.rows();
        long[] p = t.polynomial();
        long[] sums = new long[9];
        sums[0] = n;
        for (int m = 1; m <= 8; m++) {
            long sum = m <= n ? -m * p[n - m] : 0;
            for (int i = 1; i < m && i <= n; i++) {
                sum -= p[n - i] * sums[m - i];
            }
            sums[m] = sum;
        }
        return sums[k];
    }

    public long strike(int d, int at, int times, int i) {
        Table t = drawer(d);
        if (t == null || !in(at, 0, t.rows() - 1) || !in(times, 0, 8) || !in(i, 0, t.rows() - 1)) {
            return NOTHING;
        }
        int n = t.rows();
        BigInteger[][] square = t.square();
        BigInteger[] places = new BigInteger[n];
        BigInteger[] ways = new BigInteger[n];
        java.util.Arrays.fill(places, BigInteger.ZERO);
        java.util.Arrays.fill(ways, BigInteger.ZERO);
        ways[at] = BigInteger.ONE;
        for (int time = 0; time < times; time++) {
            for (int m = 0; m < n; m++) {
                places[m] = places[m].add(ways[m]);
            }
            for (int m = 0; m < n; m++) {
                for (int j = 0; j < n; j++) {
                    ways[m] = ways[m].subtract(square[m][j].multiply(places[j]));
                }
            }
        }
        return places[i].longValueExact();
    }

    public int draws(int d, int n, int seed) {
        if (!in(d, 0, 3) || !in(n, 1, 5)) {
            return -1;
        }
        long x = Math.floorMod((long) seed, 65536L);
        int[] numbers = new int[2 * n - 1];
        for (int i = 0; i < numbers.length; i++) {
            x = (25173 * x + 13849) % 65536;
            numbers[i] = (int) (x / 4 % (i < n ? 13 : 36));
            numbers[i] += i < n ? -6 : 1;
        }
        drawers[d] = new Table(java.util.Arrays.copyOf(numbers, n), java.util.Arrays.copyOfRange(numbers, n, 2 * n - 1));
        return (int) x;
    }

    public int rivals(int d, int what, boolean first) {
        if (!in(d, 0, 3) || !in(what, 0, 2)) {
            return -1;
        }
        Table t = drawers[d];
        if (t == null) {
            return -2;
        }
        List<Integer> found = new ArrayList<>();
        for (int kind = 0; kind < 2; kind++) {
            for (int i = 0; i < t.rows() - kind; i++) {
                for (int v = -6; v <= 36; v++) {
                    Table rival = t.with(kind == 0, i, v);
                    if (rival.isRight() && !rival.same(t) && isSo(rival, what)) {
                        found.add(kind == 0 ? 100 * i + v + 6 : 1000 + 100 * i + v);
                    }
                }
            }
        }
        return !first ? found.size() : found.isEmpty() ? -1 : found.get(0);
    }

    private static boolean isSo(Table t, int what) {
        return switch (what) {
            case 0 -> t.allWhole();
            case 1 -> t.hasRootZero();
            default -> t.rootsBelow(0, 1) == 0;
        };
    }

    public int census(int sum, int what) {
        if (!in(sum, -12, 12) || !in(what, 0, 2)) {
            return -1;
        }
        int found = 0;
        for (int a = -6; a <= 6; a++) {
            for (int c = 1; c <= 36; c++) {
                Table t = new Table(new int[] {a, sum - a}, new int[] {c});
                boolean so = what == 0 ? t.allWhole() : what == 1 ? t.rootsBelow(0, 1) == 0 : t.hasRootZero();
                found += t.isRight() && so ? 1 : 0;
            }
        }
        return found;
    }

    public int join(int d, int e, int coupling) {
        if (!in(d, 0, 3) || !in(e, 0, 3) || !in(coupling, 1, 36)) {
            return -1;
        }
        Table one = drawers[d];
        Table other = drawers[e];
        if (one == null || other == null) {
            return -2;
        }
        List<Integer> a = new ArrayList<>();
        List<Integer> c = new ArrayList<>();
        java.util.Arrays.stream(one.a).forEach(a::add);
        java.util.Arrays.stream(other.a).forEach(a::add);
        java.util.Arrays.stream(one.c).forEach(c::add);
        c.add(coupling);
        java.util.Arrays.stream(other.c).forEach(c::add);
        if (a.size() > 5) {
            return -3;
        }
        drawers[d] = new Table(a.stream().mapToInt(v -> v).toArray(), c.stream().mapToInt(v -> v).toArray());
        return a.size();
    }

    public int nearest(int d, int q) {
        if (!in(d, 0, 3) || !in(q, 1, 50)) {
            return -1;
        }
        if (drawers[d] == null) {
            return -2;
        }
        int[] cuts = drawers[d].cutRoots(q);
        int least = Integer.MAX_VALUE;
        for (int i = 1; i < cuts.length; i++) {
            least = Math.min(least, cuts[i] - cuts[i - 1]);
        }
        return cuts.length == 1 ? -3 : least;
    }

    /** Null for more than three L. */
    private List<Table> allTables() {
        return outer.length > 3 ? null : ALL.computeIfAbsent(Table.row(outer), key -> tried());
    }

    private List<Table> tried() {
        int n = outer.length;
        long[] due = new long[n + 1];
        for (int j = 0; j <= n; j++) {
            due[j] = made().upper[j].whole();
        }
        int sum = java.util.Arrays.stream(outer).sum();
        List<Table> found = new ArrayList<>();
        for (int code = 0; code < Math.pow(13, n - 1) * Math.pow(36, n - 1); code++) {
            int rest = code;
            int[] c = new int[n - 1];
            for (int i = n - 2; i >= 0; i--) {
                c[i] = rest % 36 + 1;
                rest /= 36;
            }
            int[] a = new int[n];
            a[n - 1] = sum;
            for (int i = n - 2; i >= 0; i--) {
                a[i] = rest % 13 - 6;
                a[n - 1] -= a[i];
                rest /= 13;
            }
            Table t = new Table(a, c);
            if (t.isRight() && java.util.Arrays.equals(t.polynomial(), due)) {
                found.add(t);
            }
        }
        return found;
    }

    public int all() {
        return !tonesThere() ? -1 : allTables() == null ? -2 : allTables().size();
    }

    public int lay(int k, int d) {
        if (!tonesThere() || k < 0 || !in(d, 0, 3)) {
            return -1;
        }
        if (allTables() == null) {
            return -2;
        }
        if (k >= allTables().size()) {
            return -3;
        }
        drawers[d] = allTables().get(k);
        return drawers[d].rows();
    }

    public int unique() {
        if (!tonesThere() || allTables() == null) {
            return tonesThere() ? -2 : -1;
        }
        int found = 0;
        for (Table t : allTables()) {
            long[] later = t.part(1, t.rows() - 1).polynomial();
            boolean same = true;
            for (int j = 0; j < later.length; j++) {
                same &= later[j] == made().lower[j].whole();
            }
            found += same ? 1 : 0;
        }
        return found;
    }

    public int some(int what, int v) {
        if (!tonesThere() || !in(what, 0, 3)) {
            return -1;
        }
        if (allTables() == null) {
            return -2;
        }
        return (int) allTables().stream().filter(t -> switch (what) {
            case 0 -> t.same(t.turned());
            case 1 -> t.a[0] == v;
            case 2 -> t.rows() > 1 && t.c[0] == v;
            default -> t.part(0, t.rows() - 1).allWhole();
        }).count();
    }

    public int heard(int d) {
        if (!in(d, 0, 3)) {
            return -1;
        }
        Table t = drawers[d];
        if (t == null) {
            return -2;
        }
        List<Integer> up = t.wholeRoots();
        List<Integer> low = t.part(1, t.rows() - 1).wholeRoots();
        if (t.rows() > 4 || up.size() != t.rows() || low.size() != t.rows() - 1) {
            return -3;
        }
        return take(up.stream().mapToInt(v -> v).toArray(), low.stream().mapToInt(v -> v).toArray());
    }

    public int keep() {
        if (kept.size() == 8) {
            return -1;
        }
        kept.add(new State(outer, inner, drawers.clone()));
        return kept.size();
    }

    public int undo() {
        if (kept.isEmpty()) {
            return -1;
        }
        State last = kept.remove(kept.size() - 1);
        outer = last.outer;
        inner = last.inner;
        drawers = last.drawers;
        return kept.size();
    }
}
