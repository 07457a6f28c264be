import java.util.Arrays;

/** Every TONES there are, all of their numbers, against fractions without a bound. */
public final class ToneNumbersTest {
    public static void main(String[] args) {
        int tones = 0;
        for (int bits = 1; bits < 1 << 13; bits++) {
            int marks = Integer.bitCount(bits);
            if (marks % 2 == 1 && marks <= 7) {
                tones++;
                compare(bits, marks);
            }
        }
        Check.due("how many TONES there are", tones, 13 + 286 + 1287 + 1716);
        Check.end();
    }

    private static void compare(int bits, int marks) {
        int[] outer = new int[(marks + 1) / 2];
        int[] inner = new int[marks / 2];
        int seen = 0;
        for (int x = -6; x <= 6; x++) {
            if ((bits >> (x + 6) & 1) == 1) {
                if (seen % 2 == 0) {
                    outer[seen / 2] = x;
                } else {
                    inner[seen / 2] = x;
                }
                seen++;
            }
        }
        String text = row(outer) + "/" + row(inner);
        ChainTables x = new ChainTables();
        Check.due(text, Texts.tones(x, text), outer.length);
        ToneOracle oracle = new ToneOracle(outer, inner);
        comparePolynomials(text, x, oracle);
        compareMoments(text, x, oracle);
        compareTable(text, x, oracle);
        compareAtNumbers(text, x, oracle);
        compareChain(text, x, oracle);
        for (int i = 0; i < outer.length; i++) {
            due(text + " weight " + i, x.weight(i, 0), x.weight(i, 1), oracle.weights[i]);
        }
    }

    private static String row(int[] numbers) {
        return Arrays.toString(numbers).replaceAll("[\\[\\],]", "");
    }

    private static void due(String what, long top, long bottom, Ratio want) {
        Check.due(what + " top", top, want.part(0));
        Check.due(what + " bottom", bottom, want.part(1));
    }

    private static void comparePolynomials(String text, ChainTables x, ToneOracle oracle) {
        for (int j = 0; j <= oracle.size; j++) {
            Check.due(text + " P " + j, x.polynomial(true, j), oracle.upper[j].whole());
        }
        for (int j = 0; j < oracle.size; j++) {
            Check.due(text + " Q " + j, x.polynomial(false, j), oracle.lower[j].whole());
        }
        for (int k = 0; k <= oracle.size; k++) {
            for (int j = 0; j <= k; j++) {
                due(text + " p" + k + " " + j, x.ortho(k, j, 0), x.ortho(k, j, 1), oracle.polynomials[k][j]);
            }
        }
        boolean same = Ratio.areSame(oracle.upper, oracle.polynomials[oracle.size]);
        Check.due(text + ": the oracle's last polynomial is P", same, true);
    }

    private static void compareMoments(String text, ChainTables x, ToneOracle oracle) {
        for (int k = 0; k < 8; k++) {
            Check.due(text + " moment " + k, x.moment(k), oracle.moments[k].whole());
            due(text + " weighed " + k, x.weighed(k, 0), x.weighed(k, 1), oracle.moments[k]);
        }
        for (int k = 0; k < 5; k++) {
            for (int s = 0; s < 2; s++) {
                Check.due(text + " determinant " + k + " " + s, x.determinant(k, s), oracle.determinant(k, s).whole());
            }
        }
        long apart = 1;
        for (int i = 0; i < oracle.size; i++) {
            for (int j = 0; j < i; j++) {
                apart *= Math.multiplyExact(oracle.outer[i] - oracle.outer[j], oracle.outer[i] - oracle.outer[j]);
            }
        }
        Check.due(text + " apart", x.apart(), apart);
    }

    private static void compareTable(String text, ChainTables x, ToneOracle oracle) {
        for (int i = 0; i < oracle.size; i++) {
            due(text + " A" + i, x.entry(true, i, 0), x.entry(true, i, 1), oracle.a[i]);
        }
        for (int i = 0; i < oracle.size - 1; i++) {
            due(text + " C" + i, x.entry(false, i, 0), x.entry(false, i, 1), oracle.c[i]);
        }
    }

    private static void compareAtNumbers(String text, ChainTables x, ToneOracle oracle) {
        for (int at = -20; at <= 20; at++) {
            for (int k = 1; k <= oracle.size; k++) {
                Ratio want = oracle.fraction(k, at);
                String what = text + " fraction " + k + " at " + at;
                if (want == null) {
                    Check.due(what, x.fraction(k, at, 0), -2);
                    Check.due(what, x.fraction(k, at, 1), -2);
                } else {
                    due(what, x.fraction(k, at, 0), x.fraction(k, at, 1), want);
                }
            }
        }
        for (int at = -8; at <= 8; at++) {
            due(text + " kernel " + at, x.kernel(at, 0), x.kernel(at, 1), oracle.kernel(at));
        }
    }

    private static void compareChain(String text, ChainTables x, ToneOracle oracle) {
        if (!oracle.hasChain()) {
            Check.due(text + " mass", x.mass(0), -2);
            Check.due(text + " chain", x.chain(1, oracle.size - 1, 1), -2);
            return;
        }
        Ratio[] both = oracle.chain();
        Ratio sum = Ratio.ZERO;
        for (int i = 0; i < oracle.size; i++) {
            Ratio mass = both[i];
            Ratio spring = both[oracle.size + i];
            due(text + " m" + i, x.chain(0, i, 0), x.chain(0, i, 1), mass);
            due(text + " s" + i, x.chain(1, i, 0), x.chain(1, i, 1), spring);
            Check.due(text + ": above 0", mass.sign() > 0 && spring.sign() > 0, true);
            sum = sum.plus(mass);
        }
        due(text + " mass", x.mass(0), x.mass(1), sum);
    }
}
