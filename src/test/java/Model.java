import java.math.BigInteger;
import java.util.ArrayList;
import java.util.List;

/**
 * The document once more, by other ways than the class takes: signs by squares one after another, worths by
 * all orders, roots by Sturm's rows, balls by counted roots above 0. Slow, and without a bound on its numbers.
 */
final class Model {
    private static final int BAD = -1, FINDING = -3, STATE = -4, SPENT = -6, NONE = -9;
    private final int[][] sheets = new int[8][];
    private final int[][][] grounds = new int[12][][];
    private int asked;
    private long upper;
    private long lower = 1;
    private int finding;
    private final int[] findings = new int[6];
    private long[] line;
    private BigInteger[] form;
    private List<int[]> places = new ArrayList<>();

    // ---- what both have in common

    private int find(int f) {
        finding = f;
        findings[f]++;
        return FINDING;
    }

    private static boolean no(int v, int end) {
        return v < 0 || v >= end;
    }

    private boolean gone(int... gs) {
        for (int g : gs) {
            if (grounds[g] == null) {
                return true;
            }
        }
        return false;
    }

    static BigInteger worth(BigInteger[][] t) {
        int n = t.length;
        if (n == 0) {
            return BigInteger.ONE;
        }
        BigInteger sum = BigInteger.ZERO;
        for (int j = 0; j < n; j++) {
            BigInteger[][] less = new BigInteger[n - 1][n - 1];
            for (int r = 1; r < n; r++) {
                for (int c = 0; c < n; c++) {
                    if (c != j) {
                        less[r - 1][c < j ? c : c - 1] = t[r][c];
                    }
                }
            }
            BigInteger part = t[0][j].multiply(worth(less));
            sum = j % 2 == 0 ? sum.add(part) : sum.subtract(part);
        }
        return sum;
    }

    static BigInteger[][] big(int[][] t, int n) {
        BigInteger[][] b = new BigInteger[n][n];
        for (int i = 0; i < n; i++) {
            for (int j = 0; j < n; j++) {
                b[i][j] = BigInteger.valueOf(t[i][j]);
            }
        }
        return b;
    }

    /** Signs above and below, by taking one square after another away. */
    static int[] signs(BigInteger[][] given) {
        BigInteger[][] t = given;
        int[] signs = new int[2];
        while (t.length > 0) {
            int n = t.length;
            int p = -1;
            for (int i = 0; i < n && p < 0; i++) {
                p = t[i][i].signum() != 0 ? i : -1;
            }
            if (p < 0) {
                int[] pair = unlikeNought(t);
                if (pair == null) {
                    return signs;
                }
                t = added(t, pair[0], pair[1]);
                p = pair[0];
            }
            signs[t[p][p].signum() > 0 ? 0 : 1]++;
            t = without(t, p);
        }
        return signs;
    }

    private static int[] unlikeNought(BigInteger[][] t) {
        for (int i = 0; i < t.length; i++) {
            for (int j = 0; j < t.length; j++) {
                if (t[i][j].signum() != 0) {
                    return new int[] {i, j};
                }
            }
        }
        return null;
    }

    private static BigInteger[][] added(BigInteger[][] t, int i, int j) {
        int n = t.length;
        BigInteger[][] r = new BigInteger[n][n];
        for (int a = 0; a < n; a++) {
            for (int b = 0; b < n; b++) {
                r[a][b] = t[a][b];
            }
        }
        for (int b = 0; b < n; b++) {
            r[i][b] = r[i][b].add(r[j][b]);
        }
        for (int a = 0; a < n; a++) {
            r[a][i] = r[a][i].add(r[a][j]);
        }
        return r;
    }

    /** The rest behind a square, times a number above 0. */
    private static BigInteger[][] without(BigInteger[][] t, int p) {
        int n = t.length;
        BigInteger[][] r = new BigInteger[n - 1][n - 1];
        BigInteger v = t[p][p];
        for (int a = 0; a < n; a++) {
            for (int b = 0; b < n; b++) {
                if (a != p && b != p) {
                    BigInteger left = t[a][b].multiply(v.multiply(v)).subtract(t[a][p].multiply(t[p][b]).multiply(v));
                    r[a < p ? a : a - 1][b < p ? b : b - 1] = left;
                }
            }
        }
        return r;
    }

    private int[] facts(int[][] t) {
        int[] s = signs(big(t, 4));
        int[] l = signs(big(t, 3));
        int w = worth(big(t, 4)).intValueExact();
        int lw = worth(big(t, 3)).intValueExact();
        int kind = 0;
        if (s[0] == 3 && s[1] == 1 && l[0] == 3 || s[0] == 1 && s[1] == 3 && l[1] == 3) {
            kind = 3;
        } else if (s[0] == 2 && s[1] == 2) {
            kind = 4;
        } else if (s[0] + s[1] == 3) {
            kind = 1;
        } else if (s[0] + s[1] < 3) {
            kind = 2;
        }
        int name = Math.max(1000 * s[0] + 100 * s[1] + 10 * l[0] + l[1], 1000 * s[1] + 100 * s[0] + 10 * l[1] + l[0]);
        return new int[] {kind, s[0], s[1], 4 - s[0] - s[1], l[0], l[1], 3 - l[0] - l[1], w, lw, name};
    }

    private int kind(int g) {
        return facts(grounds[g])[0];
    }

    /** The table in other letters: old letter i is the sum over j of m[i][j] times letter j. */
    private static int[][] inLetters(int[][] t, int[][] m) {
        int[][] r = new int[4][4];
        for (int a = 0; a < 4; a++) {
            for (int b = 0; b < 4; b++) {
                for (int i = 0; i < 4; i++) {
                    for (int j = 0; j < 4; j++) {
                        r[a][b] += m[i][a] * t[i][j] * m[j][b];
                    }
                }
            }
        }
        return r;
    }

    private static int[][] one() {
        int[][] m = new int[4][4];
        for (int i = 0; i < 4; i++) {
            m[i][i] = 1;
        }
        return m;
    }

    private static boolean beyond(int[][] t, int bound) {
        for (int[] r : t) {
            for (int v : r) {
                if (Math.abs(v) > bound) {
                    return true;
                }
            }
        }
        return false;
    }

    // ---- the calls

    int sheet(int s, int n) {
        if (no(s, 8) || n > 16) {
            return BAD;
        }
        if (n < 0) {
            return find(5);
        }
        sheets[s] = new int[n];
        return n;
    }

    int lay(int s, int i, int v) {
        if (no(s, 8)) {
            return BAD;
        }
        if (sheets[s] == null) {
            return find(1);
        }
        if (no(i, sheets[s].length)) {
            return find(2);
        }
        asked = sheets[s][i];
        sheets[s][i] = v;
        return 1;
    }

    int tear(int s) {
        if (no(s, 8)) {
            return BAD;
        }
        if (sheets[s] == null) {
            return find(1);
        }
        sheets[s] = null;
        return 1;
    }

    int copy(int s, int i, int to, int j, int n) {
        if (no(s, 8) || no(to, 8)) {
            return BAD;
        }
        if (n < 0) {
            return find(5);
        }
        if (sheets[s] == null || sheets[to] == null) {
            return find(1);
        }
        if (i < 0 || j < 0 || (long) i + n > sheets[s].length || (long) j + n > sheets[to].length) {
            return find(2);
        }
        int[] taken = sheets[s].clone();
        for (int k = 0; k < n; k++) {
            sheets[to][j + k] = taken[i + k];
        }
        return 1;
    }

    int ground(int g, int s) {
        if (no(g, 12) || no(s, 8)) {
            return BAD;
        }
        if (sheets[s] == null) {
            return find(1);
        }
        int[] ten = java.util.Arrays.copyOf(sheets[s], 10);
        boolean blank = true;
        for (int v : ten) {
            if (v < -4 || v > 4) {
                return find(2);
            }
            blank &= v == 0;
        }
        if (blank) {
            return find(4);
        }
        int[][] t = new int[4][4];
        int k = 0;
        for (int i = 0; i < 4; i++) {
            for (int j = i; j < 4; j++) {
                t[i][j] = ten[k];
                t[j][i] = ten[k++];
            }
        }
        grounds[g] = t;
        return kind(g);
    }

    int drop(int g) {
        if (no(g, 12)) {
            return BAD;
        }
        if (gone(g)) {
            return find(1);
        }
        grounds[g] = null;
        return 1;
    }

    int table(int g, int i, int j) {
        if (no(g, 12) || no(i, 4) || no(j, 4)) {
            return BAD;
        }
        if (gone(g)) {
            return find(1);
        }
        asked = grounds[g][i][j];
        return 1;
    }

    int told(int g, int what) {
        if (no(g, 12) || no(what, 10)) {
            return BAD;
        }
        if (gone(g)) {
            return find(1);
        }
        asked = facts(grounds[g])[what];
        return 1;
    }

    int mark(int g, int kind) {
        if (no(g, 12) || kind < 1 || kind > 4) {
            return BAD;
        }
        if (gone(g)) {
            return find(1);
        }
        int[] f = facts(grounds[g]);
        if (f[0] != kind && !(kind == 1 && f[0] == 2)) {
            return find(3);
        }
        if (kind == 1) {
            return f[3];
        }
        if (kind == 2) {
            return f[1] == 1 && f[2] == 1 ? 1 : 0;
        }
        if (kind == 3) {
            return f[1] == 3 ? 1 : 0;
        }
        BigInteger w = BigInteger.valueOf(f[7]);
        return w.sqrt().multiply(w.sqrt()).equals(w) ? 1 : 0;
    }

    int turn(int g) {
        if (no(g, 12)) {
            return BAD;
        }
        if (gone(g)) {
            return find(1);
        }
        for (int[] r : grounds[g]) {
            for (int j = 0; j < 4; j++) {
                r[j] = -r[j];
            }
        }
        return kind(g);
    }

    int shear(int g, int i, int j, int k) {
        if (no(g, 12) || no(i, 4) || no(j, 4) || i == j || k < -2 || k > 2) {
            return BAD;
        }
        if (gone(g)) {
            return find(1);
        }
        int[][] m = one();
        m[i][j] = k;
        int[][] t = inLetters(grounds[g], m);
        if (beyond(t, 4)) {
            return find(2);
        }
        grounds[g] = t;
        return kind(g);
    }

    int swap(int g, int i, int j) {
        if (no(g, 12) || no(i, 4) || no(j, 4)) {
            return BAD;
        }
        if (gone(g)) {
            return find(1);
        }
        int[][] m = one();
        m[i][i] = 0;
        m[j][j] = 0;
        m[i][j] = 1;
        m[j][i] = 1;
        grounds[g] = inLetters(grounds[g], m);
        return kind(g);
    }

    int same(int g, int h) {
        if (no(g, 12) || no(h, 12)) {
            return BAD;
        }
        if (gone(g, h)) {
            return find(1);
        }
        int[] a = facts(grounds[g]);
        int[] b = facts(grounds[h]);
        return a[1] == b[1] && a[2] == b[2] || a[1] == b[2] && a[2] == b[1] ? 1 : 0;
    }

    int alike(int g, int h) {
        if (no(g, 12) || no(h, 12)) {
            return BAD;
        }
        if (gone(g, h)) {
            return find(1);
        }
        return facts(grounds[g])[9] == facts(grounds[h])[9] ? 1 : 0;
    }

    private int placeFault(int g, int... ss) {
        for (int s : ss) {
            if (no(g, 12) || no(s, 8)) {
                return BAD;
            }
        }
        for (int s : ss) {
            if (gone(g) || sheets[s] == null) {
                return find(1);
            }
        }
        for (int s : ss) {
            if (sheets[s].length < 4) {
                return find(5);
            }
        }
        for (int s : ss) {
            for (int i = 0; i < 4; i++) {
                if (sheets[s][i] < -100 || sheets[s][i] > 100) {
                    return find(2);
                }
            }
        }
        for (int s : ss) {
            if (sheets[s][0] == 0 && sheets[s][1] == 0 && sheets[s][2] == 0 && sheets[s][3] == 0) {
                return find(4);
            }
        }
        return 0;
    }

    private long both(int g, int[] u, int[] v) {
        long sum = 0;
        for (int i = 0; i < 4; i++) {
            for (int j = 0; j < 4; j++) {
                sum += (long) grounds[g][i][j] * u[i] * v[j];
            }
        }
        return sum;
    }

    int value(int g, int s) {
        int fault = placeFault(g, s);
        if (fault != 0) {
            return fault;
        }
        asked = (int) both(g, sheets[s], sheets[s]);
        return 1;
    }

    private int[] pole(int g, int[] u) {
        int[] r = new int[4];
        for (int i = 0; i < 4; i++) {
            for (int j = 0; j < 4; j++) {
                r[i] += grounds[g][i][j] * u[j];
            }
        }
        return r;
    }

    int tangent(int g, int s, int to) {
        if (no(to, 8)) {
            return BAD;
        }
        int fault = placeFault(g, s);
        if (fault != 0) {
            return fault;
        }
        sheets[to] = pole(g, sheets[s]);
        return 1;
    }

    int line(int g, int s, int t) {
        int fault = placeFault(g, s, t);
        if (fault != 0) {
            return fault;
        }
        int[] u = sheets[s];
        int[] v = sheets[t];
        int rank = 1;
        for (int i = 0; i < 4; i++) {
            for (int j = 0; j < 4; j++) {
                rank = u[i] * v[j] - u[j] * v[i] != 0 ? 2 : rank;
            }
        }
        if (rank == 1) {
            return find(4);
        }
        line = new long[] {both(g, u, u), both(g, u, v), both(g, v, v)};
        int[] signs = signs(new BigInteger[][] {
            {BigInteger.valueOf(line[0]), BigInteger.valueOf(line[1])},
            {BigInteger.valueOf(line[1]), BigInteger.valueOf(line[2])},
        });
        int all = signs[0] + signs[1];
        return all == 0 ? 9 : all == 1 ? 1 : signs[0] == 1 ? 2 : 0;
    }

    int lineTold(int what) {
        if (no(what, 3)) {
            return BAD;
        }
        if (line == null) {
            return STATE;
        }
        asked = (int) line[what];
        return 1;
    }

    /** The table with the plane as a border has one sign more of each sort than the cut. */
    private int[] cutSigns(int g, int[] plane) {
        BigInteger[][] t = new BigInteger[5][5];
        for (int i = 0; i < 4; i++) {
            for (int j = 0; j < 4; j++) {
                t[i][j] = BigInteger.valueOf(grounds[g][i][j]);
            }
            t[i][4] = BigInteger.valueOf(plane[i]);
            t[4][i] = t[i][4];
        }
        t[4][4] = BigInteger.ZERO;
        int[] signs = signs(t);
        return new int[] {signs[0] - 1, signs[1] - 1};
    }

    int cut(int g, int s) {
        int fault = placeFault(g, s);
        if (fault != 0) {
            return fault;
        }
        int[] c = cutSigns(g, sheets[s]);
        return 10 * Math.max(c[0], c[1]) + Math.min(c[0], c[1]);
    }

    int touches(int g, int s) {
        int fault = placeFault(g, s);
        if (fault != 0) {
            return fault;
        }
        int[] c = cutSigns(g, sheets[s]);
        return c[0] + c[1] <= 2 ? 1 : 0;
    }

    int lines(int g, int s) {
        int fault = placeFault(g, s);
        if (fault != 0) {
            return fault;
        }
        int[] f = facts(grounds[g]);
        if (both(g, sheets[s], sheets[s]) != 0) {
            return 0;
        }
        if (f[0] == 4) {
            return 2;
        }
        if (f[0] == 1) {
            int[] p = pole(g, sheets[s]);
            boolean tip = p[0] == 0 && p[1] == 0 && p[2] == 0 && p[3] == 0;
            return f[1] == 0 || f[2] == 0 ? 0 : tip ? 9 : 1;
        }
        if (f[0] == 2) {
            return f[1] == 2 || f[2] == 2 ? 1 : 9;
        }
        return 0;
    }

    int middle(int g, int i) {
        if (no(g, 12) || no(i, 3)) {
            return BAD;
        }
        if (gone(g)) {
            return find(1);
        }
        BigInteger[][] t = big(grounds[g], 3);
        BigInteger under = worth(t);
        if (under.signum() == 0) {
            return find(4);
        }
        for (int r = 0; r < 3; r++) {
            t[r][i] = BigInteger.valueOf(-grounds[g][r][3]);
        }
        tell(worth(t), under);
        return 1;
    }

    private void tell(BigInteger over, BigInteger under) {
        BigInteger common = over.gcd(under).multiply(BigInteger.valueOf(under.signum()));
        upper = over.divide(common).longValueExact();
        lower = under.divide(common).longValueExact();
    }

    // ---- the pencil

    /** By all orders of columns: products of four parts a t + b. */
    static BigInteger[] formOf(int[][] a, int[][] b) {
        BigInteger[] sum = new BigInteger[5];
        java.util.Arrays.fill(sum, BigInteger.ZERO);
        int[] order = new int[4];
        for (int code = 0; code < 256; code++) {
            int seen = 0;
            for (int k = 0; k < 4; k++) {
                order[k] = code >> 2 * k & 3;
                seen |= 1 << order[k];
            }
            if (seen != 15) {
                continue;
            }
            int sign = 1;
            for (int k = 0; k < 4; k++) {
                for (int l = k + 1; l < 4; l++) {
                    sign = order[k] > order[l] ? -sign : sign;
                }
            }
            long[] p = {sign};
            for (int k = 0; k < 4; k++) {
                long[] q = new long[p.length + 1];
                for (int l = 0; l < p.length; l++) {
                    q[l] += p[l] * a[k][order[k]];
                    q[l + 1] += p[l] * b[k][order[k]];
                }
                p = q;
            }
            for (int k = 0; k < 5; k++) {
                sum[k] = sum[k].add(BigInteger.valueOf(p[k]));
            }
        }
        return sum;
    }

    private BigInteger[] formOf(int g, int h) {
        return formOf(grounds[g], grounds[h]);
    }

    private int pairFault(int g, int h) {
        if (no(g, 12) || no(h, 12)) {
            return BAD;
        }
        return gone(g, h) ? find(1) : 0;
    }

    int form(int g, int h) {
        int fault = pairFault(g, h);
        if (fault != 0) {
            return fault;
        }
        form = formOf(g, h);
        int count = 0;
        for (BigInteger v : form) {
            count += v.signum() != 0 ? 1 : 0;
        }
        return count;
    }

    int formTold(int i) {
        if (no(i, 5)) {
            return BAD;
        }
        if (form == null) {
            return STATE;
        }
        asked = form[i].intValueExact();
        return 1;
    }

    static String patternOf(BigInteger[] numbers) {
        Poly p = new Poly(numbers);
        if (p.isZero()) {
            return "";
        }
        StringBuilder figures = new StringBuilder();
        for (int count : p.realCounts()) {
            figures.append(count);
        }
        if (p.degree() < 4) {
            figures.append(4 - p.degree());
        }
        int real = 0;
        for (int k = 0; k < figures.length(); k++) {
            real += figures.charAt(k) - '0';
        }
        if (real < 4) {
            boolean twice = p.degree() == 4 && real == 0 && p.parts()[2].degree() == 2;
            figures.append(twice ? "6" : real == 0 ? "55" : "5");
        }
        return figures.toString();
    }

    int roots(int g, int h) {
        int fault = pairFault(g, h);
        if (fault != 0) {
            return fault;
        }
        String p = patternOf(formOf(g, h));
        return p.isEmpty() ? 9 : p.replaceAll("[56]", "").length();
    }

    int pattern(int g, int h) {
        int fault = pairFault(g, h);
        if (fault != 0) {
            return fault;
        }
        String p = patternOf(formOf(g, h));
        return p.isEmpty() ? 0 : Integer.parseInt(p);
    }

    private static int timesAt(Poly p, int m, int q) {
        int times = 0;
        Poly d = p;
        while (!d.isZero() && d.signAt(BigInteger.valueOf(m), BigInteger.valueOf(q)) == 0) {
            times++;
            d = d.derivative();
        }
        return times;
    }

    int rational(int g, int h, int i) {
        if (no(g, 12) || no(h, 12)) {
            return BAD;
        }
        if (gone(g, h)) {
            return find(1);
        }
        Poly p = new Poly(formOf(g, h));
        if (p.isZero()) {
            return STATE;
        }
        List<int[]> all = new ArrayList<>();
        for (int q = 1; q <= 64; q++) {
            for (int m = -64; m <= 64; m++) {
                boolean lowest = BigInteger.valueOf(m).gcd(BigInteger.valueOf(q)).intValue() == 1;
                if (lowest && p.signAt(BigInteger.valueOf(m), BigInteger.valueOf(q)) == 0) {
                    all.add(new int[] {m, q});
                }
            }
        }
        all.sort((x, y) -> Integer.compare(x[0] * y[1], y[0] * x[1]));
        if (i < 0 || i >= all.size()) {
            return NONE;
        }
        int[] at = all.get(i);
        upper = at[0];
        lower = at[1];
        return timesAt(p, at[0], at[1]);
    }

    private static void grow(List<int[]> row, int[] low, int[] high, int n) {
        if (n == 0) {
            return;
        }
        int[] mid = {low[0] + high[0], low[1] + high[1]};
        grow(row, low, mid, n - 1);
        row.add(mid);
        grow(row, mid, high, n - 1);
    }

    int between(int g, int h, int n) {
        if (no(g, 12) || no(h, 12) || n < 1 || n > 8) {
            return BAD;
        }
        if (gone(g, h)) {
            return find(1);
        }
        List<int[]> above = new ArrayList<>();
        grow(above, new int[] {0, 1}, new int[] {1, 0}, n);
        List<int[]> all = new ArrayList<>();
        for (int k = above.size() - 1; k >= 0; k--) {
            all.add(new int[] {-above.get(k)[0], above.get(k)[1]});
        }
        all.add(new int[] {0, 1});
        all.addAll(above);
        String row = "";
        int changes = 0;
        int latest = 0;
        for (int[] at : all) {
            BigInteger[][] t = new BigInteger[4][4];
            for (int i = 0; i < 4; i++) {
                for (int j = 0; j < 4; j++) {
                    t[i][j] = BigInteger.valueOf((long) grounds[g][i][j] * at[0] + (long) grounds[h][i][j] * at[1]);
                }
            }
            int[] s = signs(t);
            if (s[0] + s[1] < 4) {
                continue;
            }
            int sign = s[1] % 2 == 0 ? 1 : -1;
            changes += latest == -sign ? 1 : 0;
            latest = sign;
            if (!row.endsWith("" + s[0])) {
                row += s[0];
            }
        }
        row = row.length() > 9 ? row.substring(0, 9) : row;
        asked = row.isEmpty() ? 0 : Integer.parseInt(row);
        return shown(new Poly(formOf(g, h)), changes) ? asked : SPENT;
    }

    private static boolean shown(Poly p, int changes) {
        if (p.isZero()) {
            return false;
        }
        List<Integer> counts = p.realCounts();
        for (int c : counts) {
            if (c > 1) {
                return false;
            }
        }
        return counts.size() == changes;
    }

    // ---- balls

    /** Roots above 0 are counted within 0 and a bound. */
    private int meeting(int[][] a, int[][] b) {
        Poly p = new Poly(formOf(ballUp(a), ballUp(b)));
        Poly once = p.divide(Poly.gcd(p, p.derivative()));
        BigInteger bound = BigInteger.ONE;
        for (BigInteger v : p.c) {
            bound = bound.add(v.abs());
        }
        int unlike = Poly.rootsWithin(once.sturm(), BigInteger.ZERO, bound, BigInteger.ONE);
        if (unlike == 0) {
            return 0;
        }
        return unlike == 2 ? 2 : 1;
    }

    private static int[][] ballUp(int[][] t) {
        int[][] r = new int[4][4];
        int[] s = signs(big(t, 4));
        for (int i = 0; i < 4; i++) {
            for (int j = 0; j < 4; j++) {
                r[i][j] = s[0] == 3 ? t[i][j] : -t[i][j];
            }
        }
        return r;
    }

    int apart(int g, int h) {
        if (no(g, 12) || no(h, 12) || g == h) {
            return BAD;
        }
        if (gone(g, h)) {
            return find(1);
        }
        if (kind(g) != 3 || kind(h) != 3) {
            return find(3);
        }
        return meeting(grounds[g], grounds[h]);
    }

    int first(int g, int h, int s, int n) {
        if (no(g, 12) || no(h, 12) || g == h || no(s, 8) || n < 0 || n > 20) {
            return BAD;
        }
        if (gone(g, h) || sheets[s] == null) {
            return find(1);
        }
        if (kind(g) != 3 || kind(h) != 3) {
            return find(3);
        }
        if (sheets[s].length < 3) {
            return find(5);
        }
        for (int i = 0; i < 3; i++) {
            if (sheets[s][i] < -4 || sheets[s][i] > 4) {
                return find(2);
            }
        }
        List<int[][]> moved = new ArrayList<>();
        for (int step = 0; step <= n; step++) {
            int[][] m = one();
            for (int i = 0; i < 3; i++) {
                m[i][3] = -step * sheets[s][i];
            }
            int[][] t = inLetters(grounds[h], m);
            if (beyond(t, 30)) {
                return SPENT;
            }
            moved.add(t);
        }
        for (int step = 0; step <= n; step++) {
            if (meeting(grounds[g], moved.get(step)) != 2) {
                return step;
            }
        }
        return NONE;
    }

    private int seek(int n, int... gs) {
        places = new ArrayList<>();
        for (int x = -n; x <= n; x++) {
            for (int y = -n; y <= n; y++) {
                for (int z = -n; z <= n; z++) {
                    int[] u = {x, y, z, 1};
                    boolean all = true;
                    for (int g : gs) {
                        all &= both(g, u, u) == 0;
                    }
                    if (all) {
                        places.add(u);
                    }
                }
            }
        }
        return places.size();
    }

    int shared(int g, int h, int n) {
        if (no(g, 12) || no(h, 12) || n < 0 || n > 10) {
            return BAD;
        }
        return gone(g, h) ? find(1) : seek(n, g, h);
    }

    int shared3(int g, int h, int k, int n) {
        if (no(g, 12) || no(h, 12) || no(k, 12) || n < 0 || n > 10) {
            return BAD;
        }
        return gone(g, h, k) ? find(1) : seek(n, g, h, k);
    }

    int place(int i, int k) {
        if (no(k, 3)) {
            return BAD;
        }
        if (no(i, Math.min(100, places.size()))) {
            return NONE;
        }
        asked = places.get(i)[k];
        return 1;
    }

    // ---- what is told

    int asked() {
        return asked;
    }

    long upper() {
        return upper;
    }

    long lower() {
        return lower;
    }

    int count(int what) {
        int[] counts = new int[5];
        for (int[] s : sheets) {
            counts[0] += s != null ? 1 : 0;
        }
        for (int g = 0; g < 12; g++) {
            if (grounds[g] != null) {
                counts[1]++;
                counts[2] += kind(g) == 3 ? 1 : 0;
                counts[3] += kind(g) == 4 ? 1 : 0;
                counts[4] += kind(g) == 1 || kind(g) == 2 ? 1 : 0;
            }
        }
        return no(what, 5) ? BAD : counts[what];
    }

    int finding() {
        return finding;
    }

    int findings(int f) {
        return f < 1 || f > 5 ? BAD : findings[f];
    }

    long digest() {
        long h = 17;
        for (int[][] t : grounds) {
            if (t == null) {
                h = 31 * h - 1;
                continue;
            }
            for (int i = 0; i < 4; i++) {
                for (int j = i; j < 4; j++) {
                    h = 31 * h + t[i][j];
                }
            }
            for (int f : facts(t)) {
                h = 31 * h + f;
            }
        }
        for (int[] s : sheets) {
            h = 31 * h + (s == null ? -1 : s.length);
            for (int k = 0; s != null && k < s.length; k++) {
                h = 31 * h + s[k];
            }
        }
        return h;
    }
}
