/**
 * What TONES make, found another way than the program does: by the weights, in which the
 * polynomials are at right angles to one another.
 */
final class ToneOracle {
    final int[] outer;
    final int[] inner;
    final int size;
    final Ratio[] upper;
    final Ratio[] lower;
    final Ratio[] weights;
    final Ratio[] moments = new Ratio[8];
    final Ratio[][] polynomials;
    final Ratio[] norms;
    final Ratio[] a;
    final Ratio[] c;

    ToneOracle(int[] outer, int[] inner) {
        this.outer = outer;
        this.inner = inner;
        size = outer.length;
        upper = Ratio.byRoots(outer, size);
        lower = Ratio.byRoots(inner, size - 1);
        weights = new Ratio[size];
        for (int i = 0; i < size; i++) {
            weights[i] = Ratio.at(lower, Ratio.of(outer[i]));
            for (int j = 0; j < size; j++) {
                weights[i] = j == i ? weights[i] : weights[i].through(Ratio.of(outer[i] - outer[j]));
            }
        }
        Ratio[] power = {Ratio.ONE};
        for (int k = 0; k < 8; k++) {
            moments[k] = together(power, new Ratio[] {Ratio.ONE});
            power = Ratio.timesX(power);
        }
        polynomials = new Ratio[size + 1][];
        norms = new Ratio[size];
        a = new Ratio[size];
        c = new Ratio[size];
        polynomials[0] = new Ratio[] {Ratio.ONE};
        for (int k = 0; k < size; k++) {
            Ratio[] p = polynomials[k];
            norms[k] = together(p, p);
            a[k] = together(Ratio.timesX(p), p).through(norms[k]);
            polynomials[k + 1] = Ratio.minus(Ratio.timesX(p), Ratio.scaled(p, a[k]));
            if (k > 0) {
                c[k - 1] = norms[k].through(norms[k - 1]);
                polynomials[k + 1] = Ratio.minus(polynomials[k + 1], Ratio.scaled(polynomials[k - 1], c[k - 1]));
            }
        }
    }

    private Ratio together(Ratio[] one, Ratio[] other) {
        Ratio sum = Ratio.ZERO;
        for (int i = 0; i < size; i++) {
            Ratio x = Ratio.of(outer[i]);
            sum = sum.plus(weights[i].times(Ratio.at(one, x)).times(Ratio.at(other, x)));
        }
        return sum;
    }

    Ratio determinant(int k, int s) {
        Ratio[][] rows = new Ratio[k][k];
        for (int i = 0; i < k; i++) {
            for (int j = 0; j < k; j++) {
                rows[i][j] = moments[i + j + s];
            }
        }
        return Ratio.determinant(rows);
    }

    /** Null if something is divided by 0 on the way. */
    Ratio fraction(int k, int x) {
        return fractionFrom(0, k, x);
    }

    private Ratio fractionFrom(int i, int k, int x) {
        Ratio divisor = Ratio.of(x).minus(a[i]);
        if (i + 1 < k) {
            Ratio behind = fractionFrom(i + 1, k, x);
            if (behind == null) {
                return null;
            }
            divisor = divisor.minus(behind);
        }
        return divisor.sign() == 0 ? null : (i == 0 ? Ratio.ONE : c[i - 1]).through(divisor);
    }

    Ratio kernel(int x) {
        Ratio sum = Ratio.ZERO;
        for (int k = 0; k < size; k++) {
            Ratio value = Ratio.at(polynomials[k], Ratio.of(x));
            sum = sum.plus(value.times(value).through(norms[k]));
        }
        return sum;
    }

    boolean hasChain() {
        return size <= 3 && outer[0] > 0;
    }

    /** Masses, and springs behind them. */
    Ratio[] chain() {
        Ratio[] masses = new Ratio[size];
        Ratio[] springs = new Ratio[size + 1];
        masses[size - 1] = Ratio.ONE;
        springs[size] = Ratio.ZERO;
        for (int i = size - 1; i >= 0; i--) {
            springs[i] = a[i].times(masses[i]).minus(springs[i + 1]);
            if (i > 0) {
                masses[i - 1] = springs[i].times(springs[i]).through(masses[i]).through(c[i - 1]);
            }
        }
        Ratio[] both = new Ratio[2 * size];
        System.arraycopy(masses, 0, both, 0, size);
        System.arraycopy(springs, 0, both, size, size);
        return both;
    }
}
