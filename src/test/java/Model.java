import java.math.BigDecimal;
import java.math.BigInteger;
import java.math.RoundingMode;
import java.util.ArrayList;
import java.util.LinkedHashMap;
import java.util.List;
import java.util.Map;
import java.util.NoSuchElementException;

/**
 * The document once more, word by word and with whole numbers of any size, so that an overflow, a row
 * used twice or a wrong order of draws in the class shows as a difference.
 */
final class Model implements Face {
    private static final BigInteger Q = BigInteger.valueOf(268_435_399L);

    private record Pair(BigInteger[] body, BigInteger[] mask) { }

    private int kind;
    private int n;
    private BigInteger t;
    private int z;
    private long chance;
    private BigInteger[] s;
    private Pair publicKey;
    private List<Pair> relin;
    private final Map<Integer, List<Pair>> turns = new LinkedHashMap<>();
    private final List<BigInteger[]> plains = new ArrayList<>();
    private final List<List<BigInteger[]>> ciphers = new ArrayList<>();

    Model() {
        begin(0, 0);
    }

    @Override
    public int begin(int newKind, int seed) {
        if (newKind < 0 || newKind > 2) {
            throw new IllegalArgumentException();
        }
        kind = newKind;
        n = new int[] {8, 16, 32}[kind];
        t = big(new int[] {17, 97, 193}[kind]);
        z = 2;
        while (!big(z).modPow(big(n), t).equals(t.subtract(BigInteger.ONE))) {
            z++;
        }
        chance = seed & 0xFFFFFFFFL;
        s = null;
        turns.clear();
        plains.clear();
        for (int p = 0; p < 8; p++) {
            plains.add(zero());
        }
        emptyCiphers();
        return n;
    }

    @Override
    public int keys() {
        s = ternary();
        publicKey = maskedPair(zero());
        relin = switchOf(times(s, s));
        turns.clear();
        emptyCiphers();
        return n;
    }

    @Override
    public int turnKey(int g) {
        if (g % 2 == 0 || g < 3 || g > 2 * n - 1) {
            throw new IllegalArgumentException();
        }
        if (s == null || turns.size() == 4 && !turns.containsKey(g)) {
            throw new IllegalStateException();
        }
        turns.put(g, switchOf(at(s, g)));
        return turns.size();
    }

    @Override
    public int set(int p, int i, int v) {
        int before = get(p, i);
        plains.get(p)[i] = big(v).mod(t);
        return before;
    }

    @Override
    public int get(int p, int i) {
        need(p >= 0 && p < 8 && i >= 0 && i < n);
        return plains.get(p)[i].intValue();
    }

    @Override
    public int batch(int p, boolean back) {
        need(p >= 0 && p < 8);
        plains.set(p, back ? values(plains.get(p)) : lagrange(plains.get(p)));
        return get(p, 0);
    }

    @Override
    public int seal(int c, int p) {
        need(c >= 0 && c < 16 && p >= 0 && p < 8);
        if (s == null) {
            throw new IllegalStateException();
        }
        BigInteger[] u = ternary();
        BigInteger[] e = error();
        BigInteger[] f = error();
        BigInteger[] lifted = times(plains.get(p), constant(Q.divide(t)));
        ciphers.set(c, List.of(mod(plus(times(publicKey.body, u), plus(e, lifted))),
                mod(plus(times(publicKey.mask, u), f))));
        return about(c, 1);
    }

    @Override
    public int open(int p, int c) {
        need(p >= 0 && p < 8);
        BigInteger[] opened = phase(taken(c));
        for (int i = 0; i < n; i++) {
            opened[i] = scaled(opened[i]).mod(t);
        }
        plains.set(p, opened);
        return about(c, 1);
    }

    @Override
    public int join(int to, int op, int a, int b) {
        need(to >= 0 && to < 16);
        List<BigInteger[]> left = taken(a);
        List<BigInteger[]> right = taken(b);
        if (op < 0 || op > 2) {
            throw new IllegalArgumentException();
        }
        if (op == 2 && left.size() + right.size() > 4) {
            throw new IllegalStateException();
        }
        List<BigInteger[]> joined = new ArrayList<>();
        for (int k = 0; k < (op == 2 ? 3 : Math.max(left.size(), right.size())); k++) {
            joined.add(mod(op == 2 ? productPart(left, right, k)
                    : plus(partOr0(left, k), times(partOr0(right, k), constant(big(op == 0 ? 1 : -1))))));
        }
        ciphers.set(to, joined);
        return joined.size();
    }

    @Override
    public int plain(int to, int op, int a, int p) {
        need(to >= 0 && to < 16);
        List<BigInteger[]> from = taken(a);
        need(p >= 0 && p < 8);
        if (op != 0 && op != 1) {
            throw new IllegalArgumentException();
        }
        BigInteger[] row = plains.get(p);
        List<BigInteger[]> made = new ArrayList<>(from);
        if (op == 0) {
            made.set(0, mod(plus(from.get(0), times(row, constant(Q.divide(t))))));
        } else {
            made.replaceAll(part -> mod(times(part, row)));
        }
        ciphers.set(to, made);
        return made.size();
    }

    @Override
    public int shrink(int to, int a) {
        need(to >= 0 && to < 16);
        List<BigInteger[]> from = taken(a);
        if (from.size() == 2) {
            throw new IllegalStateException();
        }
        Pair applied = applied(relin, from.get(2));
        ciphers.set(to, List.of(mod(plus(from.get(0), applied.body)), mod(plus(from.get(1), applied.mask))));
        return about(to, 1);
    }

    @Override
    public int turn(int to, int a, int g) {
        need(to >= 0 && to < 16);
        List<BigInteger[]> from = taken(a);
        if (!turns.containsKey(g) || from.size() == 3) {
            throw new IllegalStateException();
        }
        Pair applied = applied(turns.get(g), mod(at(from.get(1), g)));
        ciphers.set(to, List.of(mod(plus(at(from.get(0), g), applied.body)), mod(applied.mask)));
        return about(to, 1);
    }

    @Override
    public int part(int c, int k, int i) {
        List<BigInteger[]> from = taken(c);
        need(k >= 0 && k < from.size() && i >= 0 && i < n);
        return from.get(k)[i].intValueExact();
    }

    @Override
    public int about(int c, int what) {
        List<BigInteger[]> from = taken(c);
        if (what < 0 || what > 2) {
            throw new IllegalArgumentException();
        }
        if (what == 0) {
            return from.size();
        }
        BigInteger noise = BigInteger.ZERO;
        for (BigInteger p : phase(from)) {
            noise = noise.max(centred(t.multiply(p)).abs());
        }
        if (what == 2) {
            return noise.intValueExact();
        }
        int budget = 0;
        for (int k = 0; k <= 27; k++) {
            if (noise.shiftLeft(k + 1).compareTo(Q) < 0) {
                budget = k;
            }
        }
        return budget;
    }

    @Override
    public int drop(int c) {
        need(c >= 0 && c < 16);
        return ciphers.set(c, List.of()).size();
    }

    @Override
    public int count(int what) {
        return switch (what) {
            case 0 -> kind;
            case 1 -> n;
            case 2 -> t.intValue();
            case 3 -> z;
            case 4 -> s == null ? 0 : 1;
            case 5 -> turns.size();
            case 6 -> (int) ciphers.stream().filter(c -> !c.isEmpty()).count();
            case 7 -> (int) (chance / 65_536);
            default -> -1;
        };
    }

    private static void need(boolean there) {
        if (!there) {
            throw new NoSuchElementException();
        }
    }

    private List<BigInteger[]> taken(int c) {
        need(c >= 0 && c < 16 && !ciphers.get(c).isEmpty());
        return ciphers.get(c);
    }

    private void emptyCiphers() {
        ciphers.clear();
        for (int c = 0; c < 16; c++) {
            ciphers.add(List.of());
        }
    }

    private long draw() {
        chance = (1_664_525L * chance + 1_013_904_223L) % 4_294_967_296L;
        return chance / 65_536;
    }

    private BigInteger[] ternary() {
        BigInteger[] row = zero();
        for (int i = 0; i < n; i++) {
            row[i] = big(draw() % 3 - 1);
        }
        return row;
    }

    private BigInteger[] error() {
        BigInteger[] row = zero();
        for (int i = 0; i < n; i++) {
            BigInteger bits = big(draw());
            int size = 0;
            for (int bit = 0; bit < 6; bit++) {
                if (bits.testBit(bit)) {
                    size += bit < 3 ? 1 : -1;
                }
            }
            row[i] = big(size);
        }
        return row;
    }

    private BigInteger[] uniform() {
        BigInteger[] row = zero();
        for (int i = 0; i < n; i++) {
            BigInteger high = big(draw()).multiply(big(65_536));
            row[i] = high.add(big(draw())).mod(Q);
        }
        return row;
    }

    private Pair maskedPair(BigInteger[] hidden) {
        BigInteger[] a = uniform();
        BigInteger[] e = error();
        BigInteger[] negative = times(plus(times(a, s), e), constant(big(-1)));
        return new Pair(mod(plus(negative, hidden)), a);
    }

    private List<Pair> switchOf(BigInteger[] f) {
        List<Pair> pairs = new ArrayList<>();
        for (int k = 0; k < 6; k++) {
            pairs.add(maskedPair(times(f, constant(big(32).pow(k)))));
        }
        return pairs;
    }

    private Pair applied(List<Pair> key, BigInteger[] c) {
        BigInteger[] rest = c.clone();
        BigInteger[] body = zero();
        BigInteger[] mask = zero();
        for (Pair pair : key) {
            BigInteger[] digits = zero();
            for (int i = 0; i < n; i++) {
                BigInteger[] split = rest[i].divideAndRemainder(big(32));
                rest[i] = split[0];
                digits[i] = split[1];
            }
            body = plus(body, times(digits, pair.body));
            mask = plus(mask, times(digits, pair.mask));
        }
        return new Pair(body, mask);
    }

    private BigInteger[] phase(List<BigInteger[]> parts) {
        BigInteger[] sum = zero();
        BigInteger[] power = constant(BigInteger.ONE);
        for (BigInteger[] part : parts) {
            sum = plus(sum, times(part, power));
            power = times(power, s);
        }
        return centred(sum);
    }

    private BigInteger[] productPart(List<BigInteger[]> left, List<BigInteger[]> right, int k) {
        BigInteger[] sum = zero();
        for (int i = 0; i < 2; i++) {
            if (k - i >= 0 && k - i < 2) {
                sum = plus(sum, times(centred(left.get(i)), centred(right.get(k - i))));
            }
        }
        for (int i = 0; i < n; i++) {
            sum[i] = scaled(sum[i]);
        }
        return sum;
    }

    private BigInteger[] partOr0(List<BigInteger[]> parts, int k) {
        return k < parts.size() ? parts.get(k) : zero();
    }

    private BigInteger scaled(BigInteger x) {
        BigDecimal twice = new BigDecimal(t.multiply(x).shiftLeft(1).add(Q));
        return twice.divide(new BigDecimal(Q.shiftLeft(1)), 0, RoundingMode.FLOOR).toBigInteger();
    }

    private BigInteger point(int i) {
        return big(z).modPow(big(2L * i + 1), t);
    }

    private BigInteger[] values(BigInteger[] row) {
        BigInteger[] made = zero();
        for (int i = 0; i < n; i++) {
            for (int j = n - 1; j >= 0; j--) {
                made[i] = made[i].multiply(point(i)).add(row[j]).mod(t);
            }
        }
        return made;
    }

    private BigInteger[] lagrange(BigInteger[] values) {
        BigInteger[] made = zero();
        for (int i = 0; i < n; i++) {
            BigInteger[] base = constant(values[i]);
            for (int j = 0; j < n; j++) {
                if (j != i) {
                    BigInteger[] factor = constant(point(j).negate());
                    factor[1] = BigInteger.ONE;
                    BigInteger below = point(i).subtract(point(j)).modInverse(t);
                    base = times(times(base, factor), constant(below));
                    for (int k = 0; k < n; k++) {
                        base[k] = base[k].mod(t);
                    }
                }
            }
            made = plus(made, base);
        }
        for (int i = 0; i < n; i++) {
            made[i] = made[i].mod(t);
        }
        return made;
    }

    private BigInteger[] at(BigInteger[] row, int g) {
        BigInteger[] made = zero();
        for (int i = 0; i < n; i++) {
            int turnsRound = g * i / n;
            made[g * i % n] = turnsRound % 2 == 0 ? row[i] : row[i].negate();
        }
        return made;
    }

    private BigInteger[] times(BigInteger[] a, BigInteger[] b) {
        BigInteger[] made = zero();
        for (int i = 0; i < n; i++) {
            if (a[i].signum() == 0) {
                continue;
            }
            for (int j = 0; j < n; j++) {
                BigInteger product = a[i].multiply(b[j]);
                made[(i + j) % n] = made[(i + j) % n].add(i + j < n ? product : product.negate());
            }
        }
        return made;
    }

    private BigInteger[] plus(BigInteger[] a, BigInteger[] b) {
        BigInteger[] made = zero();
        for (int i = 0; i < n; i++) {
            made[i] = a[i].add(b[i]);
        }
        return made;
    }

    private BigInteger[] mod(BigInteger[] row) {
        BigInteger[] made = zero();
        for (int i = 0; i < n; i++) {
            made[i] = row[i].mod(Q);
        }
        return made;
    }

    private BigInteger[] centred(BigInteger[] row) {
        BigInteger[] made = zero();
        for (int i = 0; i < n; i++) {
            made[i] = centred(row[i]);
        }
        return made;
    }

    private static BigInteger centred(BigInteger x) {
        BigInteger rest = x.mod(Q);
        return rest.shiftLeft(1).compareTo(Q) > 0 ? rest.subtract(Q) : rest;
    }

    private BigInteger[] constant(BigInteger value) {
        BigInteger[] made = zero();
        made[0] = value;
        return made;
    }

    private BigInteger[] zero() {
        BigInteger[] made = new BigInteger[n];
        java.util.Arrays.fill(made, BigInteger.ZERO);
        return made;
    }

    private static BigInteger big(long value) {
        return BigInteger.valueOf(value);
    }
}
