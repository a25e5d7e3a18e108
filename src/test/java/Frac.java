import java.math.BigInteger;
import java.util.ArrayList;
import java.util.List;

/** Fractions, and what a game is worth by them: found by squares of rows and columns, and proved. */
final class Frac implements Comparable<Frac> {
    static final Frac ZERO = of(0);
    static final Frac ONE = of(1);

    final BigInteger top;
    final BigInteger bottom;

    Frac(BigInteger top, BigInteger bottom) {
        BigInteger g = top.gcd(bottom).multiply(BigInteger.valueOf(bottom.signum()));
        this.top = top.divide(g);
        this.bottom = bottom.divide(g);
    }

    static Frac of(long v) {
        return new Frac(BigInteger.valueOf(v), BigInteger.ONE);
    }

    Frac plus(Frac o) {
        return new Frac(top.multiply(o.bottom).add(o.top.multiply(bottom)), bottom.multiply(o.bottom));
    }

    Frac minus(Frac o) {
        return plus(new Frac(o.top.negate(), o.bottom));
    }

    Frac times(Frac o) {
        return new Frac(top.multiply(o.top), bottom.multiply(o.bottom));
    }

    Frac by(Frac o) {
        return new Frac(top.multiply(o.bottom), bottom.multiply(o.top));
    }

    boolean isZero() {
        return top.signum() == 0;
    }

    @Override
    public int compareTo(Frac o) {
        return top.multiply(o.bottom).compareTo(o.top.multiply(bottom));
    }

    /** Gauss: what solves the rows (their last number is what is due), null if not just one does. */
    static Frac[] gauss(Frac[][] rows) {
        int n = rows.length;
        Frac[][] m = new Frac[n][];
        for (int i = 0; i < n; i++) {
            m[i] = rows[i].clone();
        }
        for (int c = 0; c < n; c++) {
            int pivot = c;
            while (pivot < n && m[pivot][c].isZero()) {
                pivot++;
            }
            if (pivot == n) {
                return null;
            }
            Frac[] swap = m[c];
            m[c] = m[pivot];
            m[pivot] = swap;
            for (int r = 0; r < n; r++) {
                if (r != c) {
                    Frac by = m[r][c].by(m[c][c]);
                    for (int k = 0; k <= n; k++) {
                        m[r][k] = m[r][k].minus(by.times(m[c][k]));
                    }
                }
            }
        }
        Frac[] x = new Frac[n];
        for (int i = 0; i < n; i++) {
            x[i] = m[i][n].by(m[i][i]);
        }
        return x;
    }

    private static List<Integer> bits(int mask) {
        List<Integer> all = new ArrayList<>();
        for (int i = 0; i < 3; i++) {
            if ((mask >> i & 1) != 0) {
                all.add(i);
            }
        }
        return all;
    }

    /** Chances over the rows that are worth the same against all these columns; null if none. */
    private static Frac[] even(long[][] worth, List<Integer> rows, List<Integer> columns, int many, boolean turned) {
        int n = rows.size();
        Frac[][] m = new Frac[n + 1][n + 2];
        for (int e = 0; e < n; e++) {
            for (int k = 0; k < n; k++) {
                int i = rows.get(k);
                int j = columns.get(e);
                m[e][k] = of(turned ? worth[j][i] : worth[i][j]);
            }
            m[e][n] = of(-1);
            m[e][n + 1] = ZERO;
        }
        for (int k = 0; k < n; k++) {
            m[n][k] = ONE;
        }
        m[n][n] = ZERO;
        m[n][n + 1] = ONE;
        Frac[] x = gauss(m);
        if (x == null) {
            return null;
        }
        Frac[] all = new Frac[many];
        java.util.Arrays.fill(all, ZERO);
        for (int k = 0; k < n; k++) {
            if (x[k].compareTo(ZERO) < 0) {
                return null;
            }
            all[rows.get(k)] = x[k];
        }
        return all;
    }

    private static Frac worthAgainst(long[][] worth, Frac[] x, int j) {
        Frac sum = ZERO;
        for (int i = 0; i < x.length; i++) {
            sum = sum.plus(x[i].times(of(worth[i][j])));
        }
        return sum;
    }

    private static Frac worthFor(long[][] worth, Frac[] y, int i) {
        Frac sum = ZERO;
        for (int j = 0; j < y.length; j++) {
            sum = sum.plus(y[j].times(of(worth[i][j])));
        }
        return sum;
    }

    /** The VALUE, and FIRST's chances, the best of which are put into x. */
    static Frac solve(long[][] worth, Frac[] x) {
        Frac v = provenValue(worth);
        int m = worth.length;
        // FIRST's chances as points (x1, x2) with the third as the rest: all corners of its lines
        List<Frac[]> lines = new ArrayList<>();
        for (int j = 0; j < worth[0].length; j++) {
            Frac last = m > 2 ? of(worth[2][j]) : v;
            Frac a1 = of(worth[0][j]).minus(last);
            Frac a2 = m > 1 ? of(worth[1][j]).minus(last) : ZERO;
            lines.add(new Frac[] {a1, a2, v.minus(last)});
        }
        lines.add(new Frac[] {ONE, ZERO, ZERO});
        lines.add(new Frac[] {ZERO, ONE, ZERO});
        lines.add(new Frac[] {ONE, ONE, ONE});
        Frac[] best = null;
        for (int i = 0; i < lines.size(); i++) {
            for (int j = 0; j < i; j++) {
                Frac[] p = gauss(new Frac[][] {lines.get(i), lines.get(j)});
                if (p == null) {
                    continue;
                }
                Frac[] all = {p[0], p[1], ONE.minus(p[0]).minus(p[1])};
                if (isAllowed(worth, all, v) && (best == null || isAhead(all, best))) {
                    best = all;
                }
            }
        }
        System.arraycopy(best, 0, x, 0, 3);
        return v;
    }

    private static boolean isAhead(Frac[] a, Frac[] b) {
        int order = a[0].compareTo(b[0]);
        return order > 0 || order == 0 && a[1].compareTo(b[1]) > 0;
    }

    private static boolean isAllowed(long[][] worth, Frac[] x, Frac v) {
        for (int i = 0; i < 3; i++) {
            if (x[i].compareTo(ZERO) < 0 || i >= worth.length && !x[i].isZero()) {
                return false;
            }
        }
        for (int j = 0; j < worth[0].length; j++) {
            if (worthAgainst(worth, java.util.Arrays.copyOf(x, worth.length), j).compareTo(v) > 0) {
                return false;
            }
        }
        return true;
    }

    /** A square of rows and columns that are even gives both chances, if they hold one another. */
    private static Frac provenValue(long[][] worth) {
        int m = worth.length;
        int n = worth[0].length;
        for (int rows = 1; rows < 1 << m; rows++) {
            for (int columns = 1; columns < 1 << n; columns++) {
                if (Integer.bitCount(rows) != Integer.bitCount(columns)) {
                    continue;
                }
                Frac[] x = even(worth, bits(rows), bits(columns), m, false);
                Frac[] y = even(worth, bits(columns), bits(rows), n, true);
                if (x == null || y == null) {
                    continue;
                }
                Frac most = worthAgainst(worth, x, 0);
                for (int j = 1; j < n; j++) {
                    Frac w = worthAgainst(worth, x, j);
                    most = w.compareTo(most) > 0 ? w : most;
                }
                Frac least = worthFor(worth, y, 0);
                for (int i = 1; i < m; i++) {
                    Frac w = worthFor(worth, y, i);
                    least = w.compareTo(least) < 0 ? w : least;
                }
                if (most.compareTo(least) == 0) {
                    return most;
                }
            }
        }
        throw new IllegalStateException("no value");
    }
}
