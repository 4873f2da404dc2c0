import java.math.BigInteger;
import java.util.ArrayList;
import java.util.List;

/** Polynomials of whole numbers without a bound, the highest power first; told slowly and surely by Sturm's rows. */
final class Poly {
    final BigInteger[] c;

    Poly(BigInteger... numbers) {
        int from = 0;
        while (from < numbers.length && numbers[from].signum() == 0) {
            from++;
        }
        c = java.util.Arrays.copyOfRange(numbers, from, numbers.length);
    }

    int degree() {
        return c.length - 1;
    }

    boolean isZero() {
        return c.length == 0;
    }

    Poly derivative() {
        BigInteger[] d = new BigInteger[Math.max(0, c.length - 1)];
        for (int k = 0; k < d.length; k++) {
            d[k] = c[k].multiply(BigInteger.valueOf(c.length - 1 - k));
        }
        return new Poly(d);
    }

    /** Divided by what all numbers share, which is above 0, so that no sign changes. */
    Poly primitive() {
        BigInteger g = BigInteger.ZERO;
        for (BigInteger v : c) {
            g = g.gcd(v);
        }
        if (g.signum() == 0) {
            return this;
        }
        BigInteger[] d = new BigInteger[c.length];
        for (int k = 0; k < c.length; k++) {
            d[k] = c[k].divide(g);
        }
        return new Poly(d);
    }

    Poly negate() {
        BigInteger[] d = new BigInteger[c.length];
        for (int k = 0; k < c.length; k++) {
            d[k] = c[k].negate();
        }
        return new Poly(d);
    }

    /** What is left, times a number above 0. */
    Poly remainder(Poly by) {
        BigInteger[] r = c.clone();
        BigInteger lead = by.c[0];
        BigInteger size = lead.abs();
        int steps = c.length - by.c.length + 1;
        for (int k = 0; k < steps; k++) {
            BigInteger q = lead.signum() > 0 ? r[k] : r[k].negate();
            for (int i = 0; i < r.length; i++) {
                r[i] = r[i].multiply(size);
            }
            for (int i = 0; i < by.c.length; i++) {
                r[k + i] = r[k + i].subtract(q.multiply(by.c[i]));
            }
        }
        return new Poly(r).primitive();
    }

    /** Divided without a remainder, up to a number. */
    Poly divide(Poly by) {
        int steps = c.length - by.c.length + 1;
        BigInteger[] r = c.clone();
        BigInteger[] q = new BigInteger[Math.max(0, steps)];
        BigInteger lead = by.c[0];
        for (int k = 0; k < steps; k++) {
            BigInteger g = lead.abs();
            for (int i = 0; i < r.length; i++) {
                r[i] = r[i].multiply(g);
            }
            for (int i = 0; i < k; i++) {
                q[i] = q[i].multiply(g);
            }
            q[k] = r[k].divide(lead);
            for (int i = 0; i < by.c.length; i++) {
                r[k + i] = r[k + i].subtract(q[k].multiply(by.c[i]));
            }
        }
        return new Poly(q).primitive();
    }

    static Poly gcd(Poly a, Poly b) {
        Poly x = a.primitive();
        Poly y = b.primitive();
        while (!y.isZero()) {
            Poly left = x.degree() >= y.degree() ? x.remainder(y) : x;
            x = y;
            y = left;
        }
        return x;
    }

    /** The sign at m by q, q above 0. */
    int signAt(BigInteger m, BigInteger q) {
        BigInteger value = BigInteger.ZERO;
        BigInteger power = BigInteger.ONE;
        for (BigInteger v : c) {
            value = value.multiply(m).add(v.multiply(power));
            power = power.multiply(q);
        }
        return value.signum();
    }

    List<Poly> sturm() {
        List<Poly> row = new ArrayList<>();
        row.add(primitive());
        row.add(derivative().primitive());
        while (row.get(row.size() - 1).degree() > 0) {
            Poly left = row.get(row.size() - 2).remainder(row.get(row.size() - 1)).negate();
            if (left.isZero()) {
                break;
            }
            row.add(left);
        }
        return row;
    }

    private static int changes(List<Poly> row, BigInteger m, BigInteger q) {
        int changes = 0;
        int latest = 0;
        for (Poly p : row) {
            int s = p.signAt(m, q);
            if (s != 0 && latest != 0 && s != latest) {
                changes++;
            }
            latest = s != 0 ? s : latest;
        }
        return changes;
    }

    /** How many unlike real roots lie above m by q and up to m2 by q. */
    static int rootsWithin(List<Poly> row, BigInteger m, BigInteger m2, BigInteger q) {
        return changes(row, m, q) - changes(row, m2, q);
    }

    /** Parts 1, 2, 3, 4: number k has all roots that count k times, once each. */
    Poly[] parts() {
        Poly[] parts = new Poly[5];
        for (int k = 1; k <= 4; k++) {
            parts[k] = new Poly(BigInteger.ONE);
        }
        Poly rest = gcd(this, derivative());
        Poly once = divide(rest);
        for (int k = 1; k <= 4 && once.degree() > 0; k++) {
            Poly next = rest.degree() > 0 ? gcd(once, rest) : new Poly(BigInteger.ONE);
            parts[k] = next.degree() > 0 ? once.divide(next) : once;
            rest = next.degree() > 0 ? rest.divide(next) : rest;
            once = next;
        }
        return parts;
    }

    /** How often the real roots count, from the least on. */
    List<Integer> realCounts() {
        List<Integer> counts = new ArrayList<>();
        if (degree() < 1) {
            return counts;
        }
        Poly once = divide(gcd(this, derivative()));
        BigInteger bound = BigInteger.ONE;
        for (BigInteger v : c) {
            bound = bound.add(v.abs());
        }
        isolate(once.sturm(), parts(), bound.negate(), bound, BigInteger.ONE, counts);
        return counts;
    }

    private static void isolate(List<Poly> row, Poly[] parts, BigInteger m, BigInteger m2, BigInteger q, List<Integer> counts) {
        int roots = rootsWithin(row, m, m2, q);
        if (roots == 0) {
            return;
        }
        if (roots == 1) {
            for (int k = 1; k <= 4; k++) {
                if (parts[k].degree() > 0 && rootsWithin(parts[k].sturm(), m, m2, q) == 1) {
                    counts.add(k);
                }
            }
            return;
        }
        BigInteger two = BigInteger.TWO;
        BigInteger middle = m.add(m2);
        isolate(row, parts, m.multiply(two), middle, q.multiply(two), counts);
        isolate(row, parts, middle, m2.multiply(two), q.multiply(two), counts);
    }
}
