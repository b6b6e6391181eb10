/**
 * Points of a curve with whole numbers, in slots: their sums, multiples,
 * orders; x and y as fractions, digit by digit.
 *
 * A point is held as x = a / (e e), y = b / (e e e): on a curve with whole
 * numbers every point has this form in lowest terms.
 */
public final class ChordPoints {
    public static final int NONE = -1;

    private static final int SLOTS = 8;
    private static final int SINGULAR = 5;
    private static final int LARGEST_COEFFICIENT = 99999;
    private static final int LARGEST_FACTOR = 1000000;
    private static final int FACTOR_BITS = 20;

    /** Mazur: no rational point of finite order has a larger one. */
    private static final int LARGEST_ORDER = 12;

    /** More digits than this in one of the four numbers are TOO LONG. */
    private static final int DIGIT_LIMIT = 120;

    /*
     * On the way to k P a multiple m P may be longer than k P itself, so the
     * way has wider limits than the slots. Silverman's bounds between the
     * height of x and the canonical height say, for numbers up to 99999, that
     * digits(m P) is less than digits(k P) + 58 for m up to k, and digits(k P)
     * more than 4 digits(m P) - 151 for m up to k / 2. A point that is not
     * TOO LONG has at most 86 digits in x. So past these limits k P is TOO
     * LONG for sure; points of finite order have at most 32 digits in x.
     */
    private static final int WAY_LIMIT = 162;
    private static final int DOUBLING_LIMIT = 63;

    private static final int BASE = 1000000000;
    private static final int LIMB_DIGITS = 9;
    private static final int[] POWERS = {
        1, 10, 100, 1000, 10000, 100000, 1000000, 10000000, 100000000, 1000000000
    };

    /** A long has at most 19 digits. */
    private static final int LONG_LIMBS = 3;
    /** For points within WAY_LIMIT: their y has at most 249 digits. */
    private static final int POINT_ROOM = 30;
    /** For what a sum of two such points needs: at most 830 digits. */
    private static final int WORK_ROOM = 112;
    /** For the equation at fractions of longs: at most 102 digits. */
    private static final int ENTRY_ROOM = 16;

    /** Far above what any division chain or root within WORK_ROOM needs. */
    private static final int MANY_ROUNDS = 100000;

    private final Point[] slots;
    private final Equation equation;
    private final Chords chords;
    private final Entry entry;
    private final Point made;
    private final Point halfway;
    private final Point base;

    public ChordPoints() {
        Reckoner reckoner = new Reckoner();
        Divisors divisors = new Divisors(reckoner);
        equation = new Equation();
        equation.become(0, 0, 0, 0, 1);
        chords = new Chords(equation, reckoner, divisors);
        entry = new Entry(equation, reckoner, divisors);
        made = new Point();
        halfway = new Point();
        base = new Point();
        slots = new Point[SLOTS];
        for (int i = 0; i < SLOTS; i++) {
            slots[i] = new Point();
        }
    }

    public int curve(int a1, int a2, int a3, int a4, int a6) {
        if (!isCoefficient(a1) || !isCoefficient(a2) || !isCoefficient(a3)
                || !isCoefficient(a4) || !isCoefficient(a6)) {
            return NONE;
        }
        if (entry.isSingular(a1, a2, a3, a4, a6)) {
            return SINGULAR;
        }
        equation.become(a1, a2, a3, a4, a6);
        for (int i = 0; i < SLOTS; i++) {
            slots[i].becomeNone();
        }
        return 0;
    }

    public boolean none(int slot) {
        if (!isSlot(slot)) {
            return false;
        }
        slots[slot].becomeNone();
        return true;
    }

    public int point(int slot, long a, long b, long c, long d) {
        if (!isSlot(slot) || b == 0 || d == 0) {
            return NONE;
        }
        return entry.read(a, b, c, d, slots[slot]) ? 1 : 0;
    }

    public int sum(int p, int q, int to) {
        if (!isSlot(p) || !isSlot(q) || !isSlot(to)) {
            return NONE;
        }
        return chords.join(slots[p], slots[q], made) ? keep(made, to) : 0;
    }

    public int less(int p, int q, int to) {
        if (!isSlot(p) || !isSlot(q) || !isSlot(to)) {
            return NONE;
        }
        base.become(slots[q]);
        chords.turnOver(base);
        return chords.join(slots[p], base, made) ? keep(made, to) : 0;
    }

    public int times(int p, int k, int to) {
        if (!isSlot(p) || !isSlot(to) || k < -LARGEST_FACTOR || k > LARGEST_FACTOR) {
            return NONE;
        }
        base.become(slots[p]);
        if (k < 0) {
            chords.turnOver(base);
        }
        int factor = k < 0 ? -k : k;
        made.becomeNone();
        for (int bit = FACTOR_BITS - 1; bit >= 0; bit--) {
            if (made.isWiderThan(DOUBLING_LIMIT) || !chords.join(made, made, halfway)) {
                return 0;
            }
            if ((factor >> bit & 1) == 0) {
                made.become(halfway);
            } else if (!chords.join(halfway, base, made)) {
                return 0;
            }
        }
        return keep(made, to);
    }

    public int order(int slot) {
        if (!isSlot(slot)) {
            return NONE;
        }
        if (slots[slot].none) {
            return 1;
        }
        made.become(slots[slot]);
        for (int count = 2; count <= LARGEST_ORDER; count++) {
            // A point of finite order has e = 1 or e = 2, and so have its multiples.
            if (made.e.length != 1 || made.e.limbs[0] > 2
                    || !chords.join(made, slots[slot], halfway)) {
                return 0;
            }
            if (halfway.none) {
                return count;
            }
            made.become(halfway);
        }
        return 0;
    }

    public boolean isNone(int slot) {
        return isSlot(slot) && slots[slot].none;
    }

    public boolean same(int p, int q) {
        return isSlot(p) && isSlot(q) && slots[p].isLike(slots[q]);
    }

    public int digits(int slot, int what) {
        return hasNumber(slot, what) ? slots[slot].number(what).digitCount() : NONE;
    }

    public int digitAt(int slot, int what, int i) {
        if (!hasNumber(slot, what)) {
            return NONE;
        }
        Num number = slots[slot].number(what);
        int count = number.digitCount();
        return i < 0 || i >= count ? NONE : number.digitAbove(count - 1 - i);
    }

    public int sign(int slot, int what) {
        if (!hasNumber(slot, what)) {
            return NONE;
        }
        Num number = slots[slot].number(what);
        if (number.isZero()) {
            return 1;
        }
        return number.below ? 0 : 2;
    }

    private static boolean isSlot(int slot) {
        return slot >= 0 && slot < SLOTS;
    }

    private static boolean isCoefficient(int value) {
        return value >= -LARGEST_COEFFICIENT && value <= LARGEST_COEFFICIENT;
    }

    private boolean hasNumber(int slot, int what) {
        return isSlot(slot) && what >= 0 && what <= 3 && !slots[slot].none;
    }

    private int keep(Point result, int to) {
        if (result.isLongerThan(DIGIT_LIMIT)) {
            return 0;
        }
        slots[to].become(result);
        return 1;
    }

    /** A whole number: a sign and limbs of nine digits, the lowest first. */
    private static final class Num {
        final int[] limbs;
        int length;
        boolean below;

        Num(int room) {
            limbs = new int[Math.max(room, LONG_LIMBS)];
        }

        void becomeZero() {
            length = 0;
            below = false;
        }

        void become(long value) {
            // Counted below zero, where the least long has a place too.
            long rest = value < 0 ? value : -value;
            int used = 0;
            for (int i = 0; i < LONG_LIMBS && rest != 0; i++) {
                limbs[i] = (int) -(rest % BASE);
                rest = rest / BASE;
                used = i + 1;
            }
            length = used;
            below = value < 0;
        }

        void become(Num other) {
            if (other.length > limbs.length) {
                becomeZero();
                return;
            }
            System.arraycopy(other.limbs, 0, limbs, 0, other.length);
            length = other.length;
            below = other.below;
        }

        /** Takes the first limbs as they stand, without the zeros on top. */
        void settle(int count, boolean isBelow) {
            int used = count <= limbs.length ? count : limbs.length;
            while (used > 0 && limbs[used - 1] == 0) {
                used--;
            }
            length = used;
            below = isBelow && used > 0;
        }

        void changeSign() {
            below = !below && length > 0;
        }

        boolean isZero() {
            return length == 0;
        }

        boolean isLike(Num other) {
            return below == other.below && compareSize(other) == 0;
        }

        int compareSize(Num other) {
            if (length != other.length) {
                return length < other.length ? -1 : 1;
            }
            for (int i = length - 1; i >= 0; i--) {
                if (limbs[i] != other.limbs[i]) {
                    return limbs[i] < other.limbs[i] ? -1 : 1;
                }
            }
            return 0;
        }

        int limb(int i) {
            return i >= 0 && i < length ? limbs[i] : 0;
        }

        /** The two lowest limbs together. */
        long lowPart() {
            return (long) limb(1) * BASE + limb(0);
        }

        int digitCount() {
            if (length == 0) {
                return 1;
            }
            return (length - 1) * LIMB_DIGITS + limbDigits(limbs[length - 1]);
        }

        /** The digit with so many digits below it. */
        int digitAbove(int lower) {
            if (lower < 0) {
                return 0;
            }
            return limb(lower / LIMB_DIGITS) / POWERS[lower % LIMB_DIGITS] % 10;
        }

        static int limbDigits(int limb) {
            int count = 1;
            while (count < LIMB_DIGITS && limb >= POWERS[count]) {
                count++;
            }
            return count;
        }
    }

    /** O, or x = a / e2 and y = b / e3 in lowest terms. */
    private static final class Point {
        final Num a = new Num(POINT_ROOM);
        final Num b = new Num(POINT_ROOM);
        final Num e = new Num(POINT_ROOM);
        final Num e2 = new Num(POINT_ROOM);
        final Num e3 = new Num(POINT_ROOM);
        boolean none = true;

        void becomeNone() {
            none = true;
        }

        void become(Point other) {
            none = other.none;
            if (none) {
                return;
            }
            a.become(other.a);
            b.become(other.b);
            e.become(other.e);
            e2.become(other.e2);
            e3.become(other.e3);
        }

        boolean isLike(Point other) {
            if (none || other.none) {
                return none == other.none;
            }
            return a.isLike(other.a) && b.isLike(other.b) && e.isLike(other.e);
        }

        Num number(int what) {
            switch (what) {
                case 0:
                    return a;
                case 1:
                    return e2;
                case 2:
                    return b;
                default:
                    return e3;
            }
        }

        /** Whether x has more digits. */
        boolean isWiderThan(int limit) {
            return !none && (a.digitCount() > limit || e2.digitCount() > limit);
        }

        /** Whether x or y has more digits. */
        boolean isLongerThan(int limit) {
            return isWiderThan(limit)
                    || !none && (b.digitCount() > limit || e3.digitCount() > limit);
        }
    }

    /** The numbers of the curve, and those that its tangents ask for. */
    private static final class Equation {
        final Num a1 = new Num(LONG_LIMBS);
        final Num a2 = new Num(LONG_LIMBS);
        final Num a3 = new Num(LONG_LIMBS);
        final Num a4 = new Num(LONG_LIMBS);
        final Num a6 = new Num(LONG_LIMBS);
        final Num twiceA2 = new Num(LONG_LIMBS);
        final Num twiceA6 = new Num(LONG_LIMBS);
        final Num b4 = new Num(LONG_LIMBS);
        final Num twiceB6 = new Num(LONG_LIMBS);
        final Num b8 = new Num(LONG_LIMBS);

        void become(long c1, long c2, long c3, long c4, long c6) {
            a1.become(c1);
            a2.become(c2);
            a3.become(c3);
            a4.become(c4);
            a6.become(c6);
            twiceA2.become(2 * c2);
            twiceA6.become(2 * c6);
            b4.become(b4(c1, c3, c4));
            twiceB6.become(2 * b6(c3, c6));
            b8.become(b8(c1, c2, c3, c4, c6));
        }

        static long b2(long c1, long c2) {
            return c1 * c1 + 4 * c2;
        }

        static long b4(long c1, long c3, long c4) {
            return c1 * c3 + 2 * c4;
        }

        static long b6(long c3, long c6) {
            return c3 * c3 + 4 * c6;
        }

        static long b8(long c1, long c2, long c3, long c4, long c6) {
            return c1 * c1 * c6 - c1 * c3 * c4 + 4 * c2 * c6 + c2 * c3 * c3 - c4 * c4;
        }
    }

    /**
     * Sums, products and quotients. The number that takes the answer may be
     * one of those that are asked for. An answer without room becomes 0, and
     * lost tells so.
     */
    private static final class Reckoner {
        private final int[] row = new int[WORK_ROOM];
        private final int[] upper = new int[WORK_ROOM + 1];
        private final int[] lower = new int[WORK_ROOM + 1];
        private final Num product = new Num(WORK_ROOM);
        boolean lost;

        void add(Num x, Num y, Num out) {
            addSigned(x, y, y.below, out);
        }

        void subtract(Num x, Num y, Num out) {
            addSigned(x, y, !y.below, out);
        }

        private void addSigned(Num x, Num y, boolean yBelow, Num out) {
            if (x.below == yBelow) {
                addSizes(x, y, out);
            } else if (x.compareSize(y) >= 0) {
                subtractSizes(x, y, x.below, out);
            } else {
                subtractSizes(y, x, yBelow, out);
            }
        }

        private void addSizes(Num x, Num y, Num out) {
            int count = Math.max(x.length, y.length);
            if (count > out.limbs.length) {
                lose(out);
                return;
            }
            int carry = 0;
            for (int i = 0; i < count; i++) {
                int limb = x.limb(i) + y.limb(i) + carry;
                carry = limb >= BASE ? 1 : 0;
                out.limbs[i] = carry == 1 ? limb - BASE : limb;
            }
            if (carry == 1 && count == out.limbs.length) {
                lose(out);
                return;
            }
            if (carry == 1) {
                out.limbs[count] = 1;
            }
            out.settle(count + carry, x.below);
        }

        /** Needs the size of x to be no less than that of y. */
        private void subtractSizes(Num x, Num y, boolean isBelow, Num out) {
            int count = x.length;
            if (count > out.limbs.length) {
                lose(out);
                return;
            }
            int borrow = 0;
            for (int i = 0; i < count; i++) {
                int limb = x.limb(i) - y.limb(i) - borrow;
                borrow = limb < 0 ? 1 : 0;
                out.limbs[i] = borrow == 1 ? limb + BASE : limb;
            }
            out.settle(count, isBelow);
        }

        void multiply(Num x, Num y, Num out) {
            int[] ys = y.limbs;
            int xCount = x.length;
            int yCount = y.length;
            if (xCount + yCount > row.length) {
                lose(out);
                return;
            }
            if (xCount == 0 || yCount == 0) {
                out.becomeZero();
                return;
            }
            for (int j = 0; j < yCount; j++) {
                row[j] = 0;
            }
            for (int i = 0; i < xCount; i++) {
                long factor = x.limbs[i];
                long carry = 0;
                for (int j = 0; j < yCount; j++) {
                    long limb = factor * ys[j] + row[i + j] + carry;
                    carry = limb / BASE;
                    row[i + j] = (int) (limb - carry * BASE);
                }
                row[i + yCount] = (int) carry;
            }
            store(row, xCount + yCount, x.below != y.below, out);
        }

        void addProduct(Num x, Num y, Num out) {
            multiply(x, y, product);
            addSigned(out, product, product.below, out);
        }

        void subtractProduct(Num x, Num y, Num out) {
            multiply(x, y, product);
            addSigned(out, product, !product.below, out);
        }

        /** The quotient is cut towards 0; the rest has the sign of x. */
        void divide(Num x, Num y, Num quotient, Num rest) {
            int count = y.length;
            int top = y.limb(count - 1);
            if (top <= 0 || x.length >= upper.length || count >= lower.length) {
                lose(quotient);
                lose(rest);
                return;
            }
            int shift = x.length - count;
            if (shift < 0) {
                rest.become(x);
                quotient.becomeZero();
                return;
            }
            boolean quotientBelow = x.below != y.below;
            boolean restBelow = x.below;
            // Knuth's algorithm D wants a divisor whose top limb is half the base or more.
            int scale = BASE / (top + 1);
            upper[x.length] = scaleUp(x, scale, upper);
            lower[count] = scaleUp(y, scale, lower);
            for (int j = shift; j >= 0; j--) {
                row[j] = takeMultiple(guessLimb(j + count, count), j, count);
            }
            scaleDown(scale, count);
            store(row, shift + 1, quotientBelow, quotient);
            store(upper, count, restBelow, rest);
        }

        private int scaleUp(Num x, int scale, int[] out) {
            int count = Math.min(x.length, out.length);
            long carry = 0;
            for (int i = 0; i < count; i++) {
                long limb = (long) scale * x.limbs[i] + carry;
                carry = limb / BASE;
                out[i] = (int) (limb - carry * BASE);
            }
            return (int) carry;
        }

        private void scaleDown(int scale, int count) {
            if (scale <= 1) {
                return;
            }
            long carry = 0;
            for (int i = Math.min(count, upper.length) - 1; i >= 0; i--) {
                long limb = carry * BASE + upper[i];
                upper[i] = (int) (limb / scale);
                carry = limb % scale;
            }
        }

        /** At most one more than the due limb of the quotient. */
        private long guessLimb(int high, int count) {
            if (count < 1 || high < count || high >= upper.length || lower[count - 1] == 0) {
                return 0;
            }
            long first = lower[count - 1];
            long second = count > 1 ? lower[count - 2] : 0;
            long third = count > 1 ? upper[high - 2] : 0;
            long two = (long) upper[high] * BASE + upper[high - 1];
            long guess = two / first;
            long over = two - guess * first;
            for (int turn = 0; turn < 3 && over < BASE; turn++) {
                if (guess < BASE && guess * second <= over * BASE + third) {
                    break;
                }
                guess--;
                over += first;
            }
            return guess;
        }

        private int takeMultiple(long guess, int from, int count) {
            if (from < 0 || from + count >= upper.length) {
                return 0;
            }
            long carry = 0;
            for (int i = 0; i < count; i++) {
                long part = guess * lower[i] + carry;
                carry = part / BASE;
                int limb = upper[from + i] - (int) (part - carry * BASE);
                if (limb < 0) {
                    limb += BASE;
                    carry++;
                }
                upper[from + i] = limb;
            }
            boolean tooMuch = upper[from + count] < carry;
            upper[from + count] = 0;
            if (tooMuch) {
                giveBack(from, count);
            }
            return (int) (tooMuch ? guess - 1 : guess);
        }

        private void giveBack(int from, int count) {
            int carry = 0;
            for (int i = 0; i < count; i++) {
                int limb = upper[from + i] + lower[i] + carry;
                carry = limb >= BASE ? 1 : 0;
                upper[from + i] = carry == 1 ? limb - BASE : limb;
            }
        }

        private void store(int[] from, int count, boolean isBelow, Num out) {
            int used = Math.min(count, from.length);
            while (used > 0 && from[used - 1] == 0) {
                used--;
            }
            if (used > out.limbs.length) {
                lose(out);
                return;
            }
            System.arraycopy(from, 0, out.limbs, 0, used);
            out.length = used;
            out.below = isBelow && used > 0;
        }

        private void lose(Num out) {
            out.length = 0;
            out.below = false;
            lost = true;
        }
    }

    /** Greatest common divisors and square roots. */
    private static final class Divisors {
        /** Keeps the products with limbs far inside a long. */
        private static final long LARGEST_MIX = 2000000000L;
        private static final int LEADING_STEPS = 100;

        private final Reckoner reckoner;
        private final Num quotient = new Num(WORK_ROOM);
        private final Num two = new Num(LONG_LIMBS);
        private Num high = new Num(WORK_ROOM);
        private Num low = new Num(WORK_ROOM);
        private Num rest = new Num(WORK_ROOM);
        private long highHigh;
        private long highLow;
        private long lowHigh;
        private long lowLow;

        Divisors(Reckoner reckoner) {
            this.reckoner = reckoner;
            two.become(2L);
        }

        /** Lehmer's way: many steps of Euclid's in one, found from the leading digits. */
        void common(Num x, Num y, Num out) {
            high.become(x);
            low.become(y);
            high.below = false;
            low.below = false;
            if (high.compareSize(low) < 0) {
                shorten();
            }
            for (int round = 0; round < MANY_ROUNDS && low.length > 2; round++) {
                if (followLeadingDigits()) {
                    mix();
                } else {
                    shorten();
                }
            }
            if (low.isZero()) {
                out.become(high);
                return;
            }
            shorten();
            out.become(commonOfLongs(high.lowPart(), low.lowPart()));
        }

        /** One step of Euclid's. */
        private void shorten() {
            if (low.isZero()) {
                return;
            }
            reckoner.divide(high, low, quotient, rest);
            Num old = high;
            high = low;
            low = rest;
            rest = old;
        }

        private static long commonOfLongs(long x, long y) {
            long a = x;
            long b = y;
            for (int round = 0; round < MANY_ROUNDS && b > 0; round++) {
                long c = a % b;
                a = b;
                b = c;
            }
            return a;
        }

        /** Answers whether the leading digits alone settle at least one step. */
        private boolean followLeadingDigits() {
            int count = high.length;
            int topDigits = Num.limbDigits(high.limb(count - 1));
            long u = leading(high, count, topDigits);
            long v = leading(low, count, topDigits);
            highHigh = 1;
            highLow = 0;
            lowHigh = 0;
            lowLow = 1;
            for (int step = 0; step < LEADING_STEPS; step++) {
                if (v + lowHigh <= 0 || v + lowLow <= 0) {
                    break;
                }
                long k = (u + highHigh) / (v + lowHigh);
                if (k > LARGEST_MIX || k != (u + highLow) / (v + lowLow)) {
                    break;
                }
                long nextHigh = highHigh - k * lowHigh;
                long nextLow = highLow - k * lowLow;
                if (Math.abs(nextHigh) > LARGEST_MIX || Math.abs(nextLow) > LARGEST_MIX) {
                    break;
                }
                highHigh = lowHigh;
                highLow = lowLow;
                lowHigh = nextHigh;
                lowLow = nextLow;
                long left = u - k * v;
                u = v;
                v = left;
            }
            return highLow != 0;
        }

        /** Eighteen digits from the top of a number of so many limbs. */
        private static long leading(Num x, int count, int topDigits) {
            int cut = POWERS[topDigits];
            long two = (long) x.limb(count - 1) * BASE + x.limb(count - 2);
            return two * POWERS[LIMB_DIGITS - topDigits] + x.limb(count - 3) / cut;
        }

        private void mix() {
            int count = high.length;
            if (low.limbs.length < count) {
                return;
            }
            for (int i = low.length; i < count; i++) {
                low.limbs[i] = 0;
            }
            long highCarry = 0;
            long lowCarry = 0;
            for (int i = 0; i < count; i++) {
                long u = high.limbs[i];
                long v = low.limbs[i];
                long highPart = highHigh * u + highLow * v + highCarry;
                long lowPart = lowHigh * u + lowLow * v + lowCarry;
                highCarry = Math.floorDiv(highPart, (long) BASE);
                lowCarry = Math.floorDiv(lowPart, (long) BASE);
                high.limbs[i] = (int) (highPart - highCarry * BASE);
                low.limbs[i] = (int) (lowPart - lowCarry * BASE);
            }
            high.settle(count, false);
            low.settle(count, false);
        }

        /** The whole part of the square root, by Newton's way from above. */
        void root(Num x, Num out) {
            if (x.isZero()) {
                out.becomeZero();
                return;
            }
            powerOfTen((x.digitCount() + 1) / 2, high);
            for (int round = 0; round < MANY_ROUNDS; round++) {
                reckoner.divide(x, high, quotient, rest);
                reckoner.add(quotient, high, low);
                reckoner.divide(low, two, low, rest);
                if (low.compareSize(high) >= 0) {
                    break;
                }
                high.become(low);
            }
            out.become(high);
        }

        private static void powerOfTen(int zeros, Num out) {
            int top = zeros / LIMB_DIGITS;
            if (zeros < 0 || top >= out.limbs.length) {
                out.becomeZero();
                return;
            }
            for (int i = 0; i < top; i++) {
                out.limbs[i] = 0;
            }
            out.limbs[top] = POWERS[zeros % LIMB_DIGITS];
            out.settle(top + 1, false);
        }
    }

    /** What comes in: fractions of longs, and the numbers of a curve. */
    private static final class Entry {
        private final Equation equation;
        private final Reckoner reckoner;
        private final Divisors divisors;
        private final Num xTop = new Num(ENTRY_ROOM);
        private final Num xBottom = new Num(ENTRY_ROOM);
        private final Num yTop = new Num(ENTRY_ROOM);
        private final Num yBottom = new Num(ENTRY_ROOM);
        private final Num first = new Num(ENTRY_ROOM);
        private final Num second = new Num(ENTRY_ROOM);
        private final Num third = new Num(ENTRY_ROOM);

        Entry(Equation equation, Reckoner reckoner, Divisors divisors) {
            this.equation = equation;
            this.reckoner = reckoner;
            this.divisors = divisors;
        }

        /** Needs b and d not to be 0. Changes out only when the point is on the curve. */
        boolean read(long a, long b, long c, long d, Point out) {
            takeLowestTerms(a, b, xTop, xBottom);
            takeLowestTerms(c, d, yTop, yBottom);
            if (!isOnCurve()) {
                return false;
            }
            out.none = false;
            out.a.become(xTop);
            out.b.become(yTop);
            out.e2.become(xBottom);
            out.e3.become(yBottom);
            // On the curve the lower parts are e e and e e e.
            reckoner.divide(yBottom, xBottom, out.e, first);
            return true;
        }

        private void takeLowestTerms(long above, long under, Num top, Num bottom) {
            top.become(above);
            bottom.become(under);
            divisors.common(top, bottom, first);
            reckoner.divide(top, first, top, second);
            reckoner.divide(bottom, first, bottom, second);
            if (bottom.below) {
                bottom.changeSign();
                top.changeSign();
            }
        }

        /** Both sides times xBottom xBottom xBottom yBottom yBottom. */
        private boolean isOnCurve() {
            reckoner.multiply(yTop, xBottom, first);
            reckoner.multiply(xTop, yBottom, second);
            reckoner.addProduct(equation.a1, second, first);
            reckoner.multiply(yBottom, xBottom, second);
            reckoner.addProduct(equation.a3, second, first);
            reckoner.multiply(first, yTop, first);
            reckoner.multiply(first, xBottom, first);
            reckoner.multiply(first, xBottom, first);

            reckoner.multiply(equation.a4, xTop, second);
            reckoner.addProduct(equation.a6, xBottom, second);
            reckoner.multiply(second, xBottom, second);
            reckoner.multiply(xTop, xTop, third);
            reckoner.addProduct(equation.a2, third, second);
            reckoner.multiply(second, xBottom, second);
            reckoner.addProduct(third, xTop, second);
            reckoner.multiply(second, yBottom, second);
            reckoner.multiply(second, yBottom, second);
            return first.isLike(second);
        }

        /** Needs numbers up to 99999 in size; then b2 to b8 fit longs, but not their products. */
        boolean isSingular(long a1, long a2, long a3, long a4, long a6) {
            xTop.become(Equation.b2(a1, a2));
            xBottom.become(Equation.b4(a1, a3, a4));
            yTop.become(Equation.b6(a3, a6));
            yBottom.become(Equation.b8(a1, a2, a3, a4, a6));
            reckoner.multiply(xBottom, yTop, first);
            second.become(9L);
            reckoner.multiply(first, second, first);
            reckoner.subtractProduct(xTop, yBottom, first);
            reckoner.multiply(first, xTop, first);
            reckoner.multiply(xBottom, xBottom, second);
            reckoner.multiply(second, xBottom, second);
            third.become(8L);
            reckoner.subtractProduct(second, third, first);
            reckoner.multiply(yTop, yTop, second);
            third.become(27L);
            reckoner.subtractProduct(second, third, first);
            return first.isZero();
        }
    }

    /**
     * Lines through two points. The x of the sum is top / (bottom bottom), and
     * the line rises by slope / (p.e q.e bottom).
     */
    private static final class Chords {
        private final Equation equation;
        private final Reckoner reckoner;
        private final Divisors divisors;
        private final Num top = new Num(WORK_ROOM);
        private final Num bottom = new Num(WORK_ROOM);
        private final Num slope = new Num(WORK_ROOM);
        private final Num share = new Num(WORK_ROOM);
        private final Num left = new Num(WORK_ROOM);
        private final Num right = new Num(WORK_ROOM);
        private final Num first = new Num(WORK_ROOM);
        private final Num second = new Num(WORK_ROOM);
        private final Num twist = new Num(WORK_ROOM);
        private final Num rest = new Num(WORK_ROOM);

        Chords(Equation equation, Reckoner reckoner, Divisors divisors) {
            this.equation = equation;
            this.reckoner = reckoner;
            this.divisors = divisors;
        }

        /** The opposite point, in place. */
        void turnOver(Point p) {
            if (p.none) {
                return;
            }
            reckoner.multiply(p.a, p.e, first);
            reckoner.addProduct(equation.a1, first, p.b);
            reckoner.addProduct(equation.a3, p.e3, p.b);
            p.b.changeSign();
        }

        /** Needs out to be another object than p and q. False when the sum is past WAY_LIMIT. */
        boolean join(Point p, Point q, Point out) {
            if (p.none || q.none) {
                out.become(p.none ? q : p);
                return true;
            }
            reckoner.lost = false;
            measureGap(p, q);
            if (!bottom.isZero()) {
                gatherHeights(p, q);
                drawChord(p, q);
            } else if (p.isLike(q)) {
                drawTangent(p);
            }
            if (bottom.isZero()) {
                out.becomeNone();
                return !reckoner.lost;
            }
            findShare();
            if (!placeX(out)) {
                return false;
            }
            placeY(p, q, out);
            turnOver(out);
            return !reckoner.lost;
        }

        private void measureGap(Point p, Point q) {
            reckoner.multiply(p.a, q.e2, left);
            reckoner.multiply(q.a, p.e2, right);
            reckoner.subtract(right, left, bottom);
        }

        /** The slope, and in twist the part of the chord's top that has y1 or y2 in it. */
        private void gatherHeights(Point p, Point q) {
            reckoner.multiply(p.b, q.e3, first);
            reckoner.multiply(q.b, p.e3, second);
            reckoner.subtract(second, first, slope);
            reckoner.add(first, second, first);
            reckoner.multiply(equation.a3, first, twist);
            reckoner.multiply(p.b, q.b, first);
            reckoner.add(twist, first, twist);
            reckoner.add(twist, first, twist);
            if (equation.a1.isZero()) {
                return;
            }
            reckoner.multiply(p.a, q.b, first);
            reckoner.multiply(first, p.e, first);
            reckoner.multiply(q.a, p.b, second);
            reckoner.multiply(second, q.e, second);
            reckoner.add(first, second, first);
            reckoner.addProduct(equation.a1, first, twist);
        }

        /**
         * With the equation put in for both y y, the x of the sum is
         * x1 x2 (x1 + x2) + 2 a2 x1 x2 + a4 (x1 + x2) + 2 a6 - a3 (y1 + y2)
         * - 2 y1 y2 - a1 (x1 y2 + x2 y1), over the square of x2 - x1: far less
         * to cancel than in the square of the line's rise.
         */
        private void drawChord(Point p, Point q) {
            reckoner.multiply(p.e, q.e, first);
            reckoner.multiply(twist, first, twist);
            reckoner.multiply(first, first, first);
            reckoner.add(left, right, left);
            reckoner.multiply(p.a, q.a, second);
            reckoner.multiply(equation.twiceA2, second, right);
            reckoner.addProduct(equation.a4, left, right);
            reckoner.addProduct(equation.twiceA6, first, right);
            reckoner.multiply(second, left, top);
            reckoner.addProduct(right, first, top);
            reckoner.subtract(top, twist, top);
        }

        private void drawTangent(Point p) {
            reckoner.multiply(p.a, p.e, first);
            reckoner.add(p.b, p.b, bottom);
            reckoner.addProduct(equation.a1, first, bottom);
            reckoner.addProduct(equation.a3, p.e3, bottom);
            reckoner.multiply(bottom, p.e, bottom);

            reckoner.multiply(p.a, p.a, left);
            reckoner.multiply(p.e2, p.e2, right);
            reckoner.multiply(equation.twiceB6, p.a, first);
            reckoner.addProduct(equation.b8, p.e2, first);
            reckoner.multiply(first, p.e2, first);
            reckoner.addProduct(equation.b4, left, first);
            reckoner.multiply(left, left, top);
            reckoner.subtractProduct(first, right, top);

            reckoner.add(left, left, slope);
            reckoner.add(slope, left, slope);
            reckoner.multiply(p.a, p.e2, first);
            reckoner.addProduct(equation.twiceA2, first, slope);
            reckoner.addProduct(equation.a4, right, slope);
            reckoner.multiply(p.b, p.e, first);
            reckoner.subtractProduct(equation.a1, first, slope);
            reckoner.multiply(slope, p.e2, slope);
        }

        /**
         * The number with top = a share share and bottom = e share, where a
         * and e have no common divisor. With h that of share and e, the first
         * divisor below is share h, the second share / h.
         */
        private void findShare() {
            divisors.common(top, bottom, share);
            reckoner.divide(top, share, first, rest);
            divisors.common(first, share, second);
            if (!second.isLike(share)) {
                reckoner.divide(share, second, first, rest);
                divisors.root(first, first);
                reckoner.multiply(first, second, share);
            }
            share.below = bottom.below;
        }

        private boolean placeX(Point out) {
            reckoner.divide(bottom, share, first, rest);
            reckoner.multiply(first, first, second);
            reckoner.multiply(share, share, left);
            reckoner.divide(top, left, left, rest);
            if (second.digitCount() > WAY_LIMIT || left.digitCount() > WAY_LIMIT) {
                return false;
            }
            out.none = false;
            out.a.become(left);
            out.e.become(first);
            out.e2.become(second);
            reckoner.multiply(first, second, out.e3);
            return true;
        }

        /** The y at which the line meets the curve for the third time. */
        private void placeY(Point p, Point q, Point out) {
            reckoner.multiply(out.a, p.e2, left);
            reckoner.subtractProduct(p.a, out.e2, left);
            reckoner.multiply(slope, left, left);
            reckoner.multiply(q.e, share, right);
            reckoner.multiply(p.b, out.e3, first);
            reckoner.addProduct(first, right, left);
            reckoner.multiply(right, p.e3, right);
            reckoner.divide(left, right, out.b, rest);
        }
    }
}
