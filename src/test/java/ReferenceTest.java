import java.math.BigInteger;

/** Long runs of calls, each answered also by a plain model with BigInteger fractions. */
public final class ReferenceTest {
    private static int wrong = 0;
    private static int asked = 0;
    private static long seed = 20261115L;

    /** A fraction in lowest terms, the lower part above 0. */
    private record Frac(BigInteger top, BigInteger bottom) {
        static Frac of(BigInteger top, BigInteger bottom) {
            BigInteger g = top.gcd(bottom);
            if (bottom.signum() < 0) {
                g = g.negate();
            }
            return new Frac(top.divide(g), bottom.divide(g));
        }

        static Frac of(long value) {
            return new Frac(BigInteger.valueOf(value), BigInteger.ONE);
        }

        Frac plus(Frac o) {
            return of(top.multiply(o.bottom).add(o.top.multiply(bottom)), bottom.multiply(o.bottom));
        }

        Frac minus(Frac o) {
            return plus(o.negative());
        }

        Frac negative() {
            return new Frac(top.negate(), bottom);
        }

        Frac by(Frac o) {
            return of(top.multiply(o.top), bottom.multiply(o.bottom));
        }

        Frac over(Frac o) {
            return of(top.multiply(o.bottom), bottom.multiply(o.top));
        }
    }

    /** A point; O is null. */
    private record Pair(Frac x, Frac y) {
    }

    private static final class Model {
        Frac a1 = Frac.of(0);
        Frac a2 = Frac.of(0);
        Frac a3 = Frac.of(0);
        Frac a4 = Frac.of(0);
        Frac a6 = Frac.of(1);
        final Pair[] slots = new Pair[8];

        int curve(int[] c) {
            for (int v : c) {
                if (v < -99999 || v > 99999) {
                    return -1;
                }
            }
            if (discriminant(c).signum() == 0) {
                return 5;
            }
            a1 = Frac.of(c[0]);
            a2 = Frac.of(c[1]);
            a3 = Frac.of(c[2]);
            a4 = Frac.of(c[3]);
            a6 = Frac.of(c[4]);
            java.util.Arrays.fill(slots, null);
            return 0;
        }

        static BigInteger discriminant(int[] c) {
            BigInteger[] a = new BigInteger[5];
            for (int i = 0; i < 5; i++) {
                a[i] = BigInteger.valueOf(c[i]);
            }
            BigInteger four = BigInteger.valueOf(4);
            BigInteger b2 = a[0].multiply(a[0]).add(four.multiply(a[1]));
            BigInteger b4 = a[0].multiply(a[2]).add(BigInteger.TWO.multiply(a[3]));
            BigInteger b6 = a[2].multiply(a[2]).add(four.multiply(a[4]));
            BigInteger b8 = a[0].multiply(a[0]).multiply(a[4])
                    .subtract(a[0].multiply(a[2]).multiply(a[3]))
                    .add(four.multiply(a[1]).multiply(a[4]))
                    .add(a[1].multiply(a[2]).multiply(a[2]))
                    .subtract(a[3].multiply(a[3]));
            return BigInteger.valueOf(9).multiply(b2).multiply(b4).multiply(b6)
                    .subtract(b2.multiply(b2).multiply(b8))
                    .subtract(BigInteger.valueOf(8).multiply(b4.pow(3)))
                    .subtract(BigInteger.valueOf(27).multiply(b6.pow(2)));
        }

        boolean has(Pair p) {
            Frac leftSide = p.y.by(p.y).plus(a1.by(p.x).by(p.y)).plus(a3.by(p.y));
            Frac rightSide = p.x.by(p.x).by(p.x).plus(a2.by(p.x).by(p.x)).plus(a4.by(p.x)).plus(a6);
            return leftSide.equals(rightSide);
        }

        Pair opposite(Pair p) {
            return p == null ? null : new Pair(p.x, p.y.plus(a1.by(p.x)).plus(a3).negative());
        }

        Pair plus(Pair p, Pair q) {
            if (p == null || q == null) {
                return p == null ? q : p;
            }
            if (p.equals(opposite(q))) {
                return null;
            }
            Frac rise;
            if (p.x.equals(q.x)) {
                Frac up = Frac.of(3).by(p.x).by(p.x).plus(Frac.of(2).by(a2).by(p.x)).plus(a4).minus(a1.by(p.y));
                rise = up.over(Frac.of(2).by(p.y).plus(a1.by(p.x)).plus(a3));
            } else {
                rise = q.y.minus(p.y).over(q.x.minus(p.x));
            }
            Frac x = rise.by(rise).plus(a1.by(rise)).minus(a2).minus(p.x).minus(q.x);
            return opposite(new Pair(x, rise.by(x.minus(p.x)).plus(p.y)));
        }

        /** Gives up, with a point that is TOO LONG, only far past every limit. */
        Pair multiple(Pair p, int k) {
            Pair base = k < 0 ? opposite(p) : p;
            Pair made = null;
            for (int bit = 20; bit >= 0; bit--) {
                made = plus(made, made);
                if ((Math.abs(k) >> bit & 1) == 1) {
                    made = plus(made, base);
                }
                if (made != null && longest(made) > 1500) {
                    return made;
                }
            }
            return made;
        }

        int order(Pair p) {
            Pair made = p;
            for (int n = 1; n <= 12; n++) {
                if (made == null) {
                    return n;
                }
                if (longest(made) > 400) {
                    return 0;
                }
                made = plus(made, p);
            }
            return 0;
        }

        static int longest(Pair p) {
            return Math.max(Math.max(length(p.x.top), length(p.x.bottom)),
                    Math.max(length(p.y.top), length(p.y.bottom)));
        }

        int keep(Pair p, int to) {
            if (p != null && longest(p) > 120) {
                return 0;
            }
            slots[to] = p;
            return 1;
        }
    }

    private static int length(BigInteger n) {
        return n.abs().toString().length();
    }

    private static int next(int bound) {
        seed = seed * 6364136223846793005L + 1442695040888963407L;
        return (int) Long.remainderUnsigned(seed >>> 20, bound);
    }

    private static void due(String call, long got, long want) {
        asked++;
        if (got != want) {
            wrong++;
            if (wrong < 50) {
                System.out.println(call + " answered " + got + ", due is " + want);
            }
        }
    }

    private static BigInteger number(Pair p, int what) {
        return what == 0 ? p.x.top : what == 1 ? p.x.bottom : what == 2 ? p.y.top : p.y.bottom;
    }

    private static String shown(ChordPoints points, int slot, int what) {
        StringBuilder text = new StringBuilder(points.sign(slot, what) == 0 ? "-" : "");
        int count = points.digits(slot, what);
        for (int i = 0; i < count; i++) {
            text.append(points.digitAt(slot, what, i));
        }
        return text.toString();
    }

    private static void compareSlot(String after, ChordPoints points, Model model, int slot) {
        Pair p = model.slots[slot];
        due(after + ": isNone(" + slot + ")", points.isNone(slot) ? 1 : 0, p == null ? 1 : 0);
        for (int what = 0; what < 4; what++) {
            String want = p == null ? "" : number(p, what).toString();
            String got = shown(points, slot, what);
            asked++;
            if (!got.equals(want)) {
                wrong++;
                System.out.println(after + ": slot " + slot + " number " + what + " is " + got + ", due is " + want);
            }
            due(after + ": sign", points.sign(slot, what), p == null ? -1 : number(p, what).signum() + 1);
        }
    }

    /** A curve with numbers up to a size, through a point with small whole x and y. */
    private static Pair chooseCurve(ChordPoints points, Model model, int size) {
        int small = size > 1000 ? 4 : 20;
        for (int turn = 0; turn < 100000; turn++) {
            long a1 = next(3) == 0 ? 0 : spread(size);
            long a2 = next(3) == 0 ? 0 : spread(size);
            long a3 = next(3) == 0 ? 0 : spread(size);
            long x = spread(small);
            long y = spread(small);
            long due = y * y + a1 * x * y + a3 * y - x * x * x - a2 * x * x;
            // Split so that a4 takes what a6 has no room for.
            long a4 = x == 0 ? spread(size) : (due - spread(size)) / x;
            long a6 = due - a4 * x;
            if (Math.abs(a4) > size || Math.abs(a6) > Math.max(size, 50)) {
                continue;
            }
            int[] c = {(int) a1, (int) a2, (int) a3, (int) a4, (int) a6};
            int want = model.curve(c);
            due("curve", points.curve(c[0], c[1], c[2], c[3], c[4]), want);
            if (want == 0) {
                return new Pair(Frac.of(x), Frac.of(y));
            }
        }
        throw new IllegalStateException("no curve found");
    }

    private static int spread(int size) {
        return next(2 * size + 1) - size;
    }

    private static void put(ChordPoints points, Model model, int slot, Pair p) {
        long m = next(9) - 4;
        long f = m == 0 ? 1 : m;
        model.slots[slot] = p;
        due("point", points.point(slot, p.x.top.longValueExact() * f, p.x.bottom.longValueExact() * f,
                p.y.top.longValueExact() * -f, p.y.bottom.longValueExact() * -f), 1);
    }

    private static void randomRun(int size) {
        ChordPoints points = new ChordPoints();
        Model model = new Model();
        Pair start = chooseCurve(points, model, size);
        put(points, model, next(8), start);
        for (int call = 0; call < 60; call++) {
            int p = next(8);
            int q = next(8);
            int to = next(8);
            String name;
            switch (next(6)) {
                case 0: {
                    name = "sum";
                    Pair made = model.plus(model.slots[p], model.slots[q]);
                    due(name, points.sum(p, q, to), model.keep(made, to));
                    break;
                }
                case 1: {
                    name = "less";
                    Pair made = model.plus(model.slots[p], model.opposite(model.slots[q]));
                    due(name, points.less(p, q, to), model.keep(made, to));
                    break;
                }
                case 2: {
                    int k = next(4) == 0 ? next(2000001) - 1000000 : next(25) - 12;
                    name = "times(" + k + ")";
                    due(name, points.times(p, k, to), model.keep(model.multiple(model.slots[p], k), to));
                    break;
                }
                case 3:
                    name = "order";
                    if (next(3) == 0) {
                        due(name, points.order(p), model.order(model.slots[p]));
                    }
                    break;
                case 4:
                    name = "same";
                    due(name, points.same(p, q) ? 1 : 0, java.util.Objects.equals(model.slots[p], model.slots[q]) ? 1 : 0);
                    break;
                default:
                    name = "point";
                    put(points, model, to, start);
            }
            compareSlot(name, points, model, to);
        }
        for (int slot = 0; slot < 8; slot++) {
            compareSlot("end", points, model, slot);
        }
    }

    /** Gives a point in, and its neighbours that are not on the curve, if all fits longs. */
    private static void enter(ChordPoints points, Model model, Pair p) {
        if (p == null || p.x.top.bitLength() > 62 || p.x.bottom.bitLength() > 62
                || p.y.top.bitLength() > 62 || p.y.bottom.bitLength() > 62) {
            return;
        }
        long a = p.x.top.longValue();
        long b = p.x.bottom.longValue();
        long c = p.y.top.longValue();
        long d = p.y.bottom.longValue();
        model.slots[5] = p;
        due("point", points.point(5, -a, -b, c, d), 1);
        compareSlot("point", points, model, 5);
        due("point, y up", points.point(6, a, b, c + 1, d), model.has(pair(a, b, c + 1, d)) ? 1 : 0);
        due("point, d up", points.point(6, a, b, c, d + 1), model.has(pair(a, b, c, d + 1)) ? 1 : 0);
        due("point, x up", points.point(6, a + 1, b, c, d), model.has(pair(a + 1, b, c, d)) ? 1 : 0);
        due("point, b up", points.point(6, a, b + 1, c, d), model.has(pair(a, b + 1, c, d)) ? 1 : 0);
    }

    private static Pair pair(long a, long b, long c, long d) {
        return new Pair(Frac.of(BigInteger.valueOf(a), BigInteger.valueOf(b)),
                Frac.of(BigInteger.valueOf(c), BigInteger.valueOf(d)));
    }

    /** Every multiple around the place where they become TOO LONG. */
    private static void allMultiples(int size) {
        ChordPoints points = new ChordPoints();
        Model model = new Model();
        Pair start = chooseCurve(points, model, size);
        put(points, model, 0, start);
        Pair exact = null;
        for (int k = 1; k <= 200; k++) {
            exact = model.plus(exact, start);
            due("times " + k, points.times(0, k, 1), model.keep(exact, 1));
            due("times " + -k, points.times(0, -k, 2), model.keep(model.opposite(exact), 2));
            compareSlot("times " + k, points, model, 1);
            compareSlot("times " + -k, points, model, 2);
            enter(points, model, exact);
            if (exact != null && Model.longest(exact) > 400) {
                break;
            }
        }
    }

    /** Sums m P + n P for all small m, n, whose lower parts often share divisors. */
    private static void allSums(int size) {
        ChordPoints points = new ChordPoints();
        Model model = new Model();
        Pair start = chooseCurve(points, model, size);
        put(points, model, 0, start);
        for (int m = -14; m <= 14; m++) {
            due("times", points.times(0, m, 1), model.keep(model.multiple(start, m), 1));
            for (int n = m; n <= 14; n++) {
                due("times", points.times(0, n, 2), model.keep(model.multiple(start, n), 2));
                due("sum", points.sum(1, 2, 3), model.keep(model.plus(model.slots[1], model.slots[2]), 3));
                compareSlot("sum", points, model, 3);
                due("less", points.less(1, 2, 4), model.keep(model.plus(model.slots[1], model.opposite(model.slots[2])), 4));
                compareSlot("less", points, model, 4);
            }
        }
    }

    /** All small curves: their discriminants, small points and the orders of these. */
    private static void smallCurves() {
        for (int code = 0; code < 3 * 3 * 2 * 9 * 9; code++) {
            int[] c = {code % 3 - 1, code / 3 % 3 - 1, code / 9 % 2, code / 18 % 9 - 4, code / 162 - 4};
            ChordPoints points = new ChordPoints();
            Model model = new Model();
            int want = model.curve(c);
            due("curve", points.curve(c[0], c[1], c[2], c[3], c[4]), want);
            for (int x = -5; x <= 5 && want == 0; x++) {
                for (int y = -6; y <= 6; y++) {
                    Pair p = new Pair(Frac.of(x), Frac.of(y));
                    boolean on = model.has(p);
                    due("point", points.point(0, x, 1, y, 1), on ? 1 : 0);
                    if (on) {
                        due("order", points.order(0), model.order(p));
                    }
                    Pair quarter = new Pair(Frac.of(BigInteger.valueOf(x), BigInteger.valueOf(4)),
                            Frac.of(BigInteger.valueOf(y), BigInteger.valueOf(8)));
                    on = model.has(quarter);
                    due("point", points.point(0, x, 4, y, 8), on ? 1 : 0);
                    if (on) {
                        due("order", points.order(0), model.order(quarter));
                    }
                }
            }
        }
    }

    public static void main(String[] args) {
        int rounds = args.length > 0 ? Integer.parseInt(args[0]) : 18;
        if (args.length > 1) {
            seed = Long.parseLong(args[1]);
        }
        smallCurves();
        int[] sizes = {2, 9, 60, 900, 20000, 99999};
        for (int i = 0; i < rounds; i++) {
            int size = sizes[i % sizes.length];
            for (int j = 0; j < 10; j++) {
                randomRun(size);
            }
            allMultiples(size);
            if (i < 12) {
                allSums(size);
            }
        }
        System.out.println(asked + " answers compared, " + wrong + " wrong");
        if (wrong != 0) {
            System.exit(1);
        }
    }
}
