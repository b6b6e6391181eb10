import java.math.BigInteger;

/** Long runs of calls, each answered also by a plain model with BigInteger fractions. */
public final class ReferenceTest {
    private static int wrong = 0;
    private static int asked = 0;
    private static long seed = 20261115L;

    /** A fraction in lowest terms, the lower part above 0. */
    private record Frac(BigInteger top, BigInteger bottom) {
        static Frac of(BigInteger top, BigInteger bottom) {
            BigInteger g = top.gcd(bottom);
            if (bottom.signum() < 0) {
                g = g.negate();
            }
            return new Frac(top.divide(g), bottom.divide(g));
        }

        static Frac of(long value) {
            return new Frac(BigInteger.valueOf(value), BigInteger.ONE);
        }

        Frac plus(Frac o) {
            return of(top.multiply(o.bottom).add(o.top.multiply(bottom)), bottom.multiply(o.bottom));
        }

        Frac minus(Frac o) {
            return plus(o.negative());
        }

        Frac negative() {
            return new Frac(top.negate(), bottom);
        }

        Frac by(Frac o) {
            return of(top.multiply(o.top), bottom.multiply(o.bottom));
        }

        Frac over(Frac o) {
            return of(top.multiply(o.bottom), bottom.multiply(o.top));
        }
    }

    /** A point; O is null. */
    private record Pair(Frac x, Frac y) {
    }

    /** An object with its calls counted, since nothing is promised past the 512th. */
    private static final class Counted {
        private final ChordPoints points = new ChordPoints();
        private int calls = 0;

        /** To be asked anew for each call. */
        ChordPoints call() {
            calls++;
            if (calls == 513) {
                wrong++;
                System.out.println("this test makes more than 512 calls on one object");
            }
            return points;
        }
    }

    /** What the document asks, with no more thought than that takes. */
    private static final class Model {
        int[] numbers = {0, 0, 0, 0, 1};
        Frac a1;
        Frac a2;
        Frac a3;
        Frac a4;
        Frac a6;
        final Pair[] slots = new Pair[8];

        Model() {
            take(numbers);
        }

        int curve(int[] c) {
            for (int v : c) {
                if (v < -99999 || v > 99999) {
                    return -1;
                }
            }
            if (discriminant(c).signum() == 0) {
                return 5;
            }
            take(c);
            return 0;
        }

        private void take(int[] c) {
            numbers = c;
            a1 = Frac.of(c[0]);
            a2 = Frac.of(c[1]);
            a3 = Frac.of(c[2]);
            a4 = Frac.of(c[3]);
            a6 = Frac.of(c[4]);
            java.util.Arrays.fill(slots, null);
        }

        static boolean isSlot(int slot) {
            return 0 <= slot && slot <= 7;
        }

        int point(int slot, long a, long b, long c, long d) {
            if (!isSlot(slot) || b == 0 || d == 0) {
                return -1;
            }
            Pair p = pair(a, b, c, d);
            if (!has(p)) {
                return 0;
            }
            slots[slot] = p;
            return 1;
        }

        int sum(int p, int q, int to) {
            return isSlot(p) && isSlot(q) && isSlot(to) ? keep(plus(slots[p], slots[q]), to) : -1;
        }

        int less(int p, int q, int to) {
            return isSlot(p) && isSlot(q) && isSlot(to) ? keep(plus(slots[p], opposite(slots[q])), to) : -1;
        }

        int times(int p, int k, int to) {
            return isSlot(p) && isSlot(to) && -1000000 <= k && k <= 1000000 ? keep(multiple(slots[p], k), to) : -1;
        }

        boolean none(int slot) {
            if (isSlot(slot)) {
                slots[slot] = null;
            }
            return isSlot(slot);
        }

        boolean same(int p, int q) {
            return isSlot(p) && isSlot(q) && java.util.Objects.equals(slots[p], slots[q]);
        }

        /** Null where digits, digitAt and sign have no number to tell of. */
        BigInteger number(int slot, int what) {
            if (!isSlot(slot) || slots[slot] == null) {
                return null;
            }
            Pair p = slots[slot];
            return what == 0 ? p.x.top : what == 1 ? p.x.bottom : what == 2 ? p.y.top : what == 3 ? p.y.bottom : null;
        }

        int digitAt(int slot, int what, int i) {
            BigInteger n = number(slot, what);
            return n == null || i < 0 || i >= length(n) ? -1 : n.abs().toString().charAt(i) - '0';
        }

        static BigInteger discriminant(int[] c) {
            BigInteger[] a = new BigInteger[5];
            for (int i = 0; i < 5; i++) {
                a[i] = BigInteger.valueOf(c[i]);
            }
            BigInteger four = BigInteger.valueOf(4);
            BigInteger b2 = a[0].multiply(a[0]).add(four.multiply(a[1]));
            BigInteger b4 = a[0].multiply(a[2]).add(BigInteger.TWO.multiply(a[3]));
            BigInteger b6 = a[2].multiply(a[2]).add(four.multiply(a[4]));
            BigInteger b8 = a[0].multiply(a[0]).multiply(a[4])
                    .subtract(a[0].multiply(a[2]).multiply(a[3]))
                    .add(four.multiply(a[1]).multiply(a[4]))
                    .add(a[1].multiply(a[2]).multiply(a[2]))
                    .subtract(a[3].multiply(a[3]));
            return BigInteger.valueOf(9).multiply(b2).multiply(b4).multiply(b6)
                    .subtract(b2.multiply(b2).multiply(b8))
                    .subtract(BigInteger.valueOf(8).multiply(b4.pow(3)))
                    .subtract(BigInteger.valueOf(27).multiply(b6.pow(2)));
        }

        boolean has(Pair p) {
            Frac leftSide = p.y.by(p.y).plus(a1.by(p.x).by(p.y)).plus(a3.by(p.y));
            Frac rightSide = p.x.by(p.x).by(p.x).plus(a2.by(p.x).by(p.x)).plus(a4.by(p.x)).plus(a6);
            return leftSide.equals(rightSide);
        }

        Pair opposite(Pair p) {
            return p == null ? null : new Pair(p.x, p.y.plus(a1.by(p.x)).plus(a3).negative());
        }

        Pair plus(Pair p, Pair q) {
            if (p == null || q == null) {
                return p == null ? q : p;
            }
            if (p.equals(opposite(q))) {
                return null;
            }
            Frac rise;
            if (p.x.equals(q.x)) {
                Frac up = Frac.of(3).by(p.x).by(p.x).plus(Frac.of(2).by(a2).by(p.x)).plus(a4).minus(a1.by(p.y));
                rise = up.over(Frac.of(2).by(p.y).plus(a1.by(p.x)).plus(a3));
            } else {
                rise = q.y.minus(p.y).over(q.x.minus(p.x));
            }
            Frac x = rise.by(rise).plus(a1.by(rise)).minus(a2).minus(p.x).minus(q.x);
            return opposite(new Pair(x, rise.by(x.minus(p.x)).plus(p.y)));
        }

        /** Gives up, with a point that is TOO LONG, only far past every limit. */
        Pair multiple(Pair p, int k) {
            Pair base = k < 0 ? opposite(p) : p;
            Pair made = null;
            for (int bit = 20; bit >= 0; bit--) {
                made = plus(made, made);
                if ((Math.abs(k) >> bit & 1) == 1) {
                    made = plus(made, base);
                }
                if (made != null && longest(made) > 600) {
                    return made;
                }
            }
            return made;
        }

        int order(Pair p) {
            Pair made = p;
            for (int n = 1; n <= 12; n++) {
                if (made == null) {
                    return n;
                }
                if (longest(made) > 400) {
                    return 0;
                }
                made = plus(made, p);
            }
            return 0;
        }

        static int longest(Pair p) {
            return Math.max(Math.max(length(p.x.top), length(p.x.bottom)),
                    Math.max(length(p.y.top), length(p.y.bottom)));
        }

        int keep(Pair p, int to) {
            if (p != null && longest(p) > 120) {
                return 0;
            }
            slots[to] = p;
            return 1;
        }
    }

    private static int length(BigInteger n) {
        return n.abs().toString().length();
    }

    private static int next(int bound) {
        seed = seed * 6364136223846793005L + 1442695040888963407L;
        return (int) Long.remainderUnsigned(seed >>> 20, bound);
    }

    private static void due(String call, long got, long want) {
        asked++;
        if (got != want) {
            wrong++;
            if (wrong < 50) {
                System.out.println(call + " answered " + got + ", due is " + want);
            }
        }
    }

    private static int bit(boolean b) {
        return b ? 1 : 0;
    }

    private static String shown(Counted x, int slot, int what) {
        StringBuilder text = new StringBuilder(x.call().sign(slot, what) == 0 ? "-" : "");
        int count = x.call().digits(slot, what);
        for (int i = 0; i < count; i++) {
            text.append(x.call().digitAt(slot, what, i));
        }
        return text.toString();
    }

    /** Every digit; not more than 430 calls, as x has at most 86 digits where y has 120. */
    private static void compareSlot(String after, Counted x, Model model, int slot) {
        due(after + ": isNone(" + slot + ")", bit(x.call().isNone(slot)), bit(model.slots[slot] == null));
        for (int what = 0; what < 4; what++) {
            BigInteger n = model.number(slot, what);
            String want = n == null ? "" : n.toString();
            String got = shown(x, slot, what);
            asked++;
            if (!got.equals(want)) {
                wrong++;
                System.out.println(after + ": slot " + slot + " number " + what + " is " + got + ", due is " + want);
            }
            due(after + ": sign", x.call().sign(slot, what), n == null ? -1 : n.signum() + 1);
        }
    }

    /** A curve with numbers up to a size, through a point with small whole x and y, which is in slot 0. */
    private static Model chooseCurve(int size) {
        int small = size > 1000 ? 4 : 20;
        for (int turn = 0; turn < 100000; turn++) {
            long a1 = next(3) == 0 ? 0 : spread(size);
            long a2 = next(3) == 0 ? 0 : spread(size);
            long a3 = next(3) == 0 ? 0 : spread(size);
            long x = spread(small);
            long y = spread(small);
            long due = y * y + a1 * x * y + a3 * y - x * x * x - a2 * x * x;
            // Split so that a4 takes what a6 has no room for.
            long a4 = x == 0 ? spread(size) : (due - spread(size)) / x;
            long a6 = due - a4 * x;
            if (Math.abs(a4) > size || Math.abs(a6) > Math.max(size, 50)) {
                continue;
            }
            int[] c = {(int) a1, (int) a2, (int) a3, (int) a4, (int) a6};
            Model model = new Model();
            int want = model.curve(c);
            due("curve", curve(new Counted(), c), want);
            if (want == 0) {
                model.slots[0] = pair(x, 1, y, 1);
                return model;
            }
        }
        throw new IllegalStateException("no curve found");
    }

    private static int curve(Counted x, int[] c) {
        return x.call().curve(c[0], c[1], c[2], c[3], c[4]);
    }

    private static int spread(int size) {
        return next(2 * size + 1) - size;
    }

    /** A new object on the model's curve, with what the model has in slot 0. */
    private static Counted begin(Model model) {
        Counted x = new Counted();
        due("curve", curve(x, model.numbers), 0);
        put(x, model.slots[0], 0);
        return x;
    }

    /** In any terms. */
    private static void put(Counted x, Pair p, int slot) {
        long m = next(9) - 4;
        long f = m == 0 ? 1 : m;
        due("point", x.call().point(slot, p.x.top.longValueExact() * f, p.x.bottom.longValueExact() * f,
                p.y.top.longValueExact() * -f, p.y.bottom.longValueExact() * -f), 1);
    }

    /** Mostly one of the slots. */
    private static int anySlot() {
        int[] others = {-1, 8, Integer.MIN_VALUE, Integer.MAX_VALUE};
        return next(40) == 0 ? others[next(4)] : next(8);
    }

    /** Each object gets 512 calls, one of four a look at a number. */
    private static void randomRun(int size) {
        Model model = chooseCurve(size);
        Pair first = model.slots[0];
        Counted x = begin(model);
        while (x.calls < 512) {
            switch (next(4)) {
                case 0:
                    compareNumber(x, model, anySlot(), next(30) == 0 ? next(9) - 3 : next(4));
                    break;
                case 1:
                    compareOther(x, model, first);
                    break;
                default:
                    comparePoint(x, model);
            }
        }
    }

    private static void comparePoint(Counted x, Model model) {
        int p = anySlot();
        int q = anySlot();
        int to = anySlot();
        switch (next(3)) {
            case 0:
                due("sum", x.call().sum(p, q, to), model.sum(p, q, to));
                break;
            case 1:
                due("less", x.call().less(p, q, to), model.less(p, q, to));
                break;
            default: {
                int k = next(8) == 0 ? next(2000100) - 1000050 : next(25) - 12;
                due("times(" + k + ")", x.call().times(p, k, to), model.times(p, k, to));
            }
        }
    }

    private static void compareOther(Counted x, Model model, Pair first) {
        int p = anySlot();
        int q = anySlot();
        switch (next(6)) {
            case 0:
                due("order", x.call().order(p), Model.isSlot(p) ? model.order(model.slots[p]) : -1);
                break;
            case 1:
                due("same", bit(x.call().same(p, q)), bit(model.same(p, q)));
                break;
            case 2:
                due("isNone", bit(x.call().isNone(p)), bit(Model.isSlot(p) && model.slots[p] == null));
                break;
            case 3:
                due("none", bit(x.call().none(p)), bit(model.none(p)));
                break;
            case 4: {
                int[] c = {0, 0, 0, next(2) == 0 ? 100000 : -3, 2};
                due("curve", curve(x, c), model.curve(c));
                break;
            }
            default: {
                int to = next(8);
                model.slots[to] = first;
                put(x, first, to);
            }
        }
    }

    private static void compareNumber(Counted x, Model model, int slot, int what) {
        BigInteger n = model.number(slot, what);
        switch (next(4)) {
            case 0:
                due("digits", x.call().digits(slot, what), n == null ? -1 : length(n));
                break;
            case 1:
                due("sign", x.call().sign(slot, what), n == null ? -1 : n.signum() + 1);
                break;
            default: {
                int i = n == null ? 0 : next(length(n) + 2) - 1;
                due("digitAt", x.call().digitAt(slot, what, i), model.digitAt(slot, what, i));
            }
        }
    }

    /** Gives a point in, and its neighbours that are not on the curve, if all fits longs. */
    private static void enter(Counted x, Model model, Pair p) {
        if (p == null || p.x.top.bitLength() > 62 || p.x.bottom.bitLength() > 62
                || p.y.top.bitLength() > 62 || p.y.bottom.bitLength() > 62) {
            return;
        }
        long a = p.x.top.longValue();
        long b = p.x.bottom.longValue();
        long c = p.y.top.longValue();
        long d = p.y.bottom.longValue();
        due("point", x.call().point(5, -a, -b, c, d), model.point(5, -a, -b, c, d));
        compareSlot("point", x, model, 5);
        due("point, y up", x.call().point(6, a, b, c + 1, d), model.point(6, a, b, c + 1, d));
        due("point, d up", x.call().point(6, a, b, c, d + 1), model.point(6, a, b, c, d + 1));
        due("point, x up", x.call().point(6, a + 1, b, c, d), model.point(6, a + 1, b, c, d));
        due("point, b up", x.call().point(6, a, b + 1, c, d), model.point(6, a, b + 1, c, d));
    }

    private static Pair pair(long a, long b, long c, long d) {
        return new Pair(Frac.of(BigInteger.valueOf(a), BigInteger.valueOf(b)),
                Frac.of(BigInteger.valueOf(c), BigInteger.valueOf(d)));
    }

    /** Every multiple around the place where they become TOO LONG. */
    private static void allMultiples(int size) {
        Model model = chooseCurve(size);
        Pair exact = null;
        for (int k = 1; k <= 200; k++) {
            exact = model.plus(exact, model.slots[0]);
            enter(begin(model), model, exact);
            model.none(1);
            compareMultiple(model, k, exact);
            model.none(1);
            compareMultiple(model, -k, model.opposite(exact));
            if (exact != null && Model.longest(exact) > 400) {
                break;
            }
        }
    }

    private static void compareMultiple(Model model, int k, Pair exact) {
        Counted x = begin(model);
        due("times " + k, x.call().times(0, k, 1), model.keep(exact, 1));
        compareSlot("times " + k, x, model, 1);
    }

    /** Sums m P + n P for all small m, n, whose lower parts often share divisors. */
    private static void allSums(int size) {
        Model model = chooseCurve(size);
        for (int m = -14; m <= 14; m++) {
            for (int n = m; n <= 14; n++) {
                compareSum(model, m, n);
            }
        }
    }

    private static void compareSum(Model model, int m, int n) {
        for (int slot = 1; slot < 5; slot++) {
            model.none(slot);
        }
        for (int turn = 0; turn < 2; turn++) {
            Counted x = begin(model);
            due("times", x.call().times(0, m, 1), model.times(0, m, 1));
            due("times", x.call().times(0, n, 2), model.times(0, n, 2));
            if (turn == 0) {
                due("sum", x.call().sum(1, 2, 3), model.sum(1, 2, 3));
                compareSlot("sum", x, model, 3);
            } else {
                due("less", x.call().less(1, 2, 4), model.less(1, 2, 4));
                compareSlot("less", x, model, 4);
            }
        }
    }

    /** All small curves: their discriminants, small points and the orders of these. */
    private static void smallCurves() {
        for (int code = 0; code < 3 * 3 * 2 * 9 * 9; code++) {
            int[] c = {code % 3 - 1, code / 3 % 3 - 1, code / 9 % 2, code / 18 % 9 - 4, code / 162 - 4};
            Model model = new Model();
            int want = model.curve(c);
            for (int a = -5; a <= 5; a++) {
                Counted x = new Counted();
                due("curve", curve(x, c), want);
                for (int b = -6; b <= 6 && want == 0; b++) {
                    compareEntry(x, model, a, 1, b, 1);
                    compareEntry(x, model, a, 4, b, 8);
                }
            }
        }
    }

    private static void compareEntry(Counted x, Model model, long a, long b, long c, long d) {
        int on = model.point(0, a, b, c, d);
        due("point", x.call().point(0, a, b, c, d), on);
        if (on == 1) {
            due("order", x.call().order(0), model.order(model.slots[0]));
        }
    }

    public static void main(String[] args) {
        int rounds = args.length > 0 ? Integer.parseInt(args[0]) : 18;
        if (args.length > 1) {
            seed = Long.parseLong(args[1]);
        }
        smallCurves();
        int[] sizes = {2, 9, 60, 900, 20000, 99999};
        for (int i = 0; i < rounds; i++) {
            int size = sizes[i % sizes.length];
            for (int j = 0; j < 2; j++) {
                randomRun(size);
            }
            allMultiples(size);
            if (i < 12) {
                allSums(size);
            }
        }
        System.out.println(asked + " answers compared, " + wrong + " wrong");
        if (wrong != 0) {
            System.exit(1);
        }
    }
}
