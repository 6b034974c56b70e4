import java.math.BigInteger;
import java.util.ArrayList;
import java.util.Arrays;
import java.util.List;
import java.util.TreeMap;

/**
 * The document's terms in their plainest form, to compare with: the steps one
 * by one in numbers without a limit, all 19,683 matrices, and the multiples of
 * the edges as they were told.
 */
final class Plain {
    private Plain() {
    }

    private static BigInteger big(long value) {
        return BigInteger.valueOf(value);
    }

    static boolean isCell(int... six) {
        for (int i = 0; i < 6; i++) {
            if (six[i] > 10_000 || six[i] < (i < 3 ? 1 : -10_000)) {
                return false;
            }
        }
        BigInteger minor = big(six[0]).multiply(big(six[1])).subtract(big(six[5]).pow(2));
        return minor.signum() > 0 && determinant(six).signum() > 0;
    }

    static BigInteger determinant(int... six) {
        BigInteger a = big(six[0]);
        BigInteger b = big(six[1]);
        BigInteger c = big(six[2]);
        BigInteger d = big(six[3]);
        BigInteger e = big(six[4]);
        BigInteger f = big(six[5]);
        return a.multiply(b).multiply(c).add(d.multiply(e).multiply(f).shiftLeft(1))
                .subtract(a.multiply(d.pow(2))).subtract(b.multiply(e.pow(2))).subtract(c.multiply(f.pow(2)));
    }

    /** The reduced six, and behind them how many times a step (5) to (8) was done. */
    static List<Long> reduce(long... six) {
        long a = six[0];
        long b = six[1];
        long c = six[2];
        long x = 2 * six[3];
        long y = 2 * six[4];
        long z = 2 * six[5];
        long done = 0;
        int at = 1;
        while (at <= 8) {
            long oldA = a;
            long oldB = b;
            long oldC = c;
            long oldX = x;
            long oldY = y;
            long oldZ = z;
            if (at == 1) {
                if (a > b || (a == b && Math.abs(x) > Math.abs(y))) {
                    a = oldB;
                    b = oldA;
                    x = oldY;
                    y = oldX;
                }
                at = 2;
            } else if (at == 2) {
                at = 3;
                if (b > c || (b == c && Math.abs(y) > Math.abs(z))) {
                    b = oldC;
                    c = oldB;
                    y = oldZ;
                    z = oldY;
                    at = 1;
                }
            } else if (at == 3 || at == 4) {
                boolean above = big(x).multiply(big(y)).multiply(big(z)).signum() > 0;
                x = above ? Math.abs(oldX) : -Math.abs(oldX);
                y = above ? Math.abs(oldY) : -Math.abs(oldY);
                z = above ? Math.abs(oldZ) : -Math.abs(oldZ);
                at = 5;
            } else if (at == 5) {
                at = 6;
                if (Math.abs(x) > b || (x == b && 2 * y < z) || (x == -b && z < 0)) {
                    long s = Long.signum(x);
                    c = oldB + oldC - s * oldX;
                    y = oldY - s * oldZ;
                    x = oldX - 2 * s * oldB;
                    done++;
                    at = 1;
                }
            } else if (at == 6) {
                at = 7;
                if (Math.abs(y) > a || (y == a && 2 * x < z) || (y == -a && z < 0)) {
                    long s = Long.signum(y);
                    c = oldA + oldC - s * oldY;
                    x = oldX - s * oldZ;
                    y = oldY - 2 * s * oldA;
                    done++;
                    at = 1;
                }
            } else if (at == 7) {
                at = 8;
                if (Math.abs(z) > a || (z == a && 2 * x < y) || (z == -a && y < 0)) {
                    long s = Long.signum(z);
                    b = oldA + oldB - s * oldZ;
                    x = oldX - s * oldY;
                    z = oldZ - 2 * s * oldA;
                    done++;
                    at = 1;
                }
            } else {
                at = 9;
                long sum = x + y + z + a + b;
                if (sum < 0 || (sum == 0 && 2 * (a + y) + z > 0)) {
                    c = oldC + sum;
                    x = 2 * oldB + oldX + oldZ;
                    y = 2 * oldA + oldY + oldZ;
                    done++;
                    at = 1;
                }
            }
        }
        return List.of(a, b, c, x / 2, y / 2, z / 2, done);
    }

    static long[] toLongs(int... six) {
        long[] out = new long[6];
        for (int i = 0; i < 6; i++) {
            out[i] = six[i];
        }
        return out;
    }

    static long[] sixOf(List<Long> reduced) {
        long[] out = new long[6];
        for (int i = 0; i < 6; i++) {
            out[i] = reduced.get(i);
        }
        return out;
    }

    /** The products of the edges that a matrix makes: its columns' sums of the edges. */
    static long[] made(long[] six, long[][] matrix) {
        long[][] table = {
            {six[0], six[5], six[4]},
            {six[5], six[1], six[3]},
            {six[4], six[3], six[2]}};
        long[][] out = new long[3][3];
        for (int j = 0; j < 3; j++) {
            for (int k = 0; k < 3; k++) {
                for (int g = 0; g < 3; g++) {
                    for (int h = 0; h < 3; h++) {
                        out[j][k] += matrix[g][j] * table[g][h] * matrix[h][k];
                    }
                }
            }
        }
        return new long[] {out[0][0], out[1][1], out[2][2], out[1][2], out[0][2], out[0][1]};
    }

    private static long[][] matrixOf(int nine) {
        long[][] matrix = new long[3][3];
        int rest = nine;
        for (int i = 8; i >= 0; i--) {
            matrix[i / 3][i % 3] = rest % 3 - 1;
            rest /= 3;
        }
        return matrix;
    }

    static boolean keeps(long[] six, int nine) {
        return Arrays.equals(made(six, matrixOf(nine)), six);
    }

    /** Six numbers that a matrix keeps; none if it never comes back to the identity, whose turns are 12 at most. */
    static long[] keptBy(int nine) {
        long[][] matrix = matrixOf(nine);
        long[] start = {3, 4, 5, 0, 0, 0};
        long[] six = start;
        long[] sum = new long[6];
        for (int turn = 0; turn < 12; turn++) {
            for (int i = 0; i < 6; i++) {
                sum[i] += six[i];
            }
            six = made(six, matrix);
        }
        return Arrays.equals(six, start) ? sum : new long[0];
    }

    static int symmetry(long[] reducedSix) {
        int kept = 0;
        for (int nine = 0; nine < 19_683; nine++) {
            if (keeps(reducedSix, nine)) {
                kept++;
            }
        }
        return kept;
    }

    private static int order(List<Long> left, List<Long> right) {
        for (int i = 0; i < 6; i++) {
            int side = Long.compare(left.get(i), right.get(i));
            if (side != 0) {
                return side;
            }
        }
        return 0;
    }

    /** The different multiples, lowest first, each with how many edges come to it. */
    static TreeMap<List<Long>, Integer> multiples(long[] six, int n) {
        TreeMap<List<Long>, Integer> found = new TreeMap<>(Plain::order);
        for (long p = 1; p <= n; p++) {
            for (long r = 1; r <= n; r++) {
                for (long u = 1; u <= n; u++) {
                    for (long rest = 0; p * r * u == n && rest < p * p * r; rest++) {
                        long[][] matrix = {{p, rest % p, rest / p % p}, {0, r, rest / p / p}, {0, 0, u}};
                        found.merge(reduce(made(six, matrix)), 1, Integer::sum);
                    }
                }
            }
        }
        return found;
    }

    static int common(long[] six, int n, long[] other, int m) {
        List<List<Long>> both = new ArrayList<>();
        TreeMap<List<Long>, Integer> second = multiples(other, m);
        for (List<Long> row : multiples(six, n).keySet()) {
            if (second.containsKey(row)) {
                both.add(row);
            }
        }
        return both.size();
    }

    static long length(long[] six, long x, long y, long z) {
        return made(six, new long[][] {{x, 0, 0}, {y, 0, 0}, {z, 0, 0}})[0];
    }

    static int shorter(long[] six, long r) {
        int within = 0;
        for (int x = -4; x <= 4; x++) {
            for (int y = -4; y <= 4; y++) {
                for (int z = -4; z <= 4; z++) {
                    if ((x != 0 || y != 0 || z != 0) && length(six, x, y, z) <= r) {
                        within++;
                    }
                }
            }
        }
        return within;
    }
}
