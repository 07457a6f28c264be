import java.math.BigInteger;

/** A fraction of numbers without a bound: what the program's own fractions are held against. */
final class Ratio {
    static final Ratio ZERO = of(0);
    static final Ratio ONE = of(1);

    final BigInteger top;
    final BigInteger bottom;

    private Ratio(BigInteger top, BigInteger bottom) {
        BigInteger divisor = top.gcd(bottom);
        if (bottom.signum() < 0) {
            divisor = divisor.negate();
        }
        this.top = top.divide(divisor);
        this.bottom = bottom.divide(divisor);
    }

    static Ratio of(long number) {
        return new Ratio(BigInteger.valueOf(number), BigInteger.ONE);
    }

    static Ratio of(long top, long bottom) {
        return new Ratio(BigInteger.valueOf(top), BigInteger.valueOf(bottom));
    }

    Ratio plus(Ratio by) {
        return new Ratio(top.multiply(by.bottom).add(by.top.multiply(bottom)), bottom.multiply(by.bottom));
    }

    Ratio minus(Ratio by) {
        return plus(new Ratio(by.top.negate(), by.bottom));
    }

    Ratio times(Ratio by) {
        return new Ratio(top.multiply(by.top), bottom.multiply(by.bottom));
    }

    Ratio through(Ratio by) {
        return new Ratio(top.multiply(by.bottom), bottom.multiply(by.top));
    }

    int sign() {
        return top.signum();
    }

    boolean isWhole() {
        return bottom.equals(BigInteger.ONE);
    }

    /** Fails if it does not fit. */
    long part(int what) {
        return (what == 0 ? top : bottom).longValueExact();
    }

    long whole() {
        if (!isWhole()) {
            throw new IllegalStateException("not whole");
        }
        return part(0);
    }

    boolean isSame(Ratio other) {
        return minus(other).sign() == 0;
    }

    // Polynomials: the number at x to the j in place j.

    static Ratio[] byRoots(int[] roots, int count) {
        Ratio[] product = {ONE};
        for (int i = 0; i < count; i++) {
            product = minus(timesX(product), scaled(product, of(roots[i])));
        }
        return product;
    }

    static Ratio[] timesX(Ratio[] row) {
        Ratio[] made = new Ratio[row.length + 1];
        made[0] = ZERO;
        System.arraycopy(row, 0, made, 1, row.length);
        return made;
    }

    static Ratio[] scaled(Ratio[] row, Ratio by) {
        Ratio[] made = new Ratio[row.length];
        for (int j = 0; j < row.length; j++) {
            made[j] = row[j].times(by);
        }
        return made;
    }

    static Ratio[] minus(Ratio[] row, Ratio[] by) {
        Ratio[] made = row.clone();
        for (int j = 0; j < by.length; j++) {
            made[j] = made[j].minus(by[j]);
        }
        return made;
    }

    static Ratio at(Ratio[] row, Ratio x) {
        Ratio sum = ZERO;
        for (int j = row.length - 1; j >= 0; j--) {
            sum = sum.times(x).plus(row[j]);
        }
        return sum;
    }

    static boolean areSame(Ratio[] row, Ratio[] other) {
        if (row.length != other.length) {
            return false;
        }
        for (int j = 0; j < row.length; j++) {
            if (!row[j].isSame(other[j])) {
                return false;
            }
        }
        return true;
    }

    /** How many roots above a number a polynomial has that has real ones alone: Descartes' changes of sign. */
    static int rootsAbove(Ratio[] row, Ratio x) {
        Ratio[] moved = {ZERO};
        for (int j = row.length - 1; j >= 0; j--) {
            moved = minus(timesX(moved), scaled(moved, ZERO.minus(x)));
            moved[0] = moved[0].plus(row[j]);
        }
        int changes = 0;
        int sign = 0;
        for (Ratio number : moved) {
            if (number.sign() != 0) {
                changes += sign == -number.sign() ? 1 : 0;
                sign = number.sign();
            }
        }
        return changes;
    }

    /** A determinant by taking each row from those below it. */
    static Ratio determinant(Ratio[][] rows) {
        int n = rows.length;
        Ratio product = ONE;
        for (int c = 0; c < n; c++) {
            int pivot = c;
            while (pivot < n && rows[pivot][c].sign() == 0) {
                pivot++;
            }
            if (pivot == n) {
                return ZERO;
            }
            if (pivot != c) {
                Ratio[] held = rows[c];
                rows[c] = rows[pivot];
                rows[pivot] = held;
                product = ZERO.minus(product);
            }
            product = product.times(rows[c][c]);
            for (int r = c + 1; r < n; r++) {
                rows[r] = minus(rows[r], scaled(rows[c], rows[r][c].through(rows[c][c])));
            }
        }
        return product;
    }
}
