/** Each promise of the document by hand: ordinary inputs, edges, wrong inputs. */
public final class PromisesTest {
    private static final int[] NO_SLOTS = {-1, 8, 9, 100, Integer.MIN_VALUE, Integer.MAX_VALUE};
    private static int wrong = 0;
    private static int asked = 0;

    private static void due(String call, long got, long want) {
        asked++;
        if (got != want) {
            wrong++;
            System.out.println(call + " answered " + got + ", due is " + want);
        }
    }

    private static void due(String call, boolean got, boolean want) {
        due(call, got ? 1 : 0, want ? 1 : 0);
    }

    private static String fraction(ChordPoints x, int slot, int what) {
        return number(x, slot, what) + "/" + number(x, slot, what + 1);
    }

    private static String number(ChordPoints x, int slot, int what) {
        StringBuilder text = new StringBuilder(x.sign(slot, what) == 0 ? "-" : "");
        for (int i = 0; i < x.digits(slot, what); i++) {
            text.append(x.digitAt(slot, what, i));
        }
        return text.toString();
    }

    private static void holds(String when, ChordPoints x, int slot, String want) {
        String got = x.isNone(slot) ? "O" : fraction(x, slot, 0) + " " + fraction(x, slot, 2);
        asked++;
        if (!got.equals(want)) {
            wrong++;
            System.out.println(when + ": slot " + slot + " holds " + got + ", due is " + want);
        }
    }

    /** y y + y = x x x - x with P = (0, 0) in slot 0, which has no order. */
    private static ChordPoints endless() {
        ChordPoints x = new ChordPoints();
        x.curve(0, 0, 1, -1, 0);
        x.point(0, 0, 1, 0, 1);
        return x;
    }

    private static void promise1NewObject() {
        ChordPoints x = new ChordPoints();
        for (int slot = 0; slot < 8; slot++) {
            holds("new", x, slot, "O");
        }
        due("new: (2, 3) is on y y = x x x + 1", x.point(0, 2, 1, 3, 1), 1);
        due("new: (2, 4) is not", x.point(1, 2, 1, 4, 1), 0);
        due("new: (1, 1) is not", x.point(1, 1, 1, 1, 1), 0);
        due("NONE", ChordPoints.NONE, -1);
        ChordPoints other = new ChordPoints();
        other.curve(0, 0, 0, -1, 0);
        due("objects do not share a curve", x.point(2, 0, 1, 1, 1), 1);
        holds("objects do not share slots", other, 0, "O");
    }

    private static void promise2Curve() {
        ChordPoints x = new ChordPoints();
        x.point(3, 2, 1, 3, 1);
        due("curve singular, cusp", x.curve(0, 0, 0, 0, 0), 5);
        due("curve singular, node", x.curve(0, 0, 0, -3, 2), 5);
        due("curve singular, a1", x.curve(1, 0, 0, 0, 0), 5);
        due("curve singular, a1 a2 a3", x.curve(2, -1, 0, 0, 0), 5);
        due("curve singular, a2 a4 a6", x.curve(0, -5, 0, 7, -3), 5);
        holds("after singular", x, 3, "2/1 3/1");
        int[] far = {-100000, 100000, Integer.MIN_VALUE, Integer.MAX_VALUE};
        for (int v : far) {
            due("curve a1 " + v, x.curve(v, 0, 0, 0, 1), -1);
            due("curve a2 " + v, x.curve(0, v, 0, 0, 1), -1);
            due("curve a3 " + v, x.curve(0, 0, v, 0, 1), -1);
            due("curve a4 " + v, x.curve(0, 0, 0, v, 1), -1);
            due("curve a6 " + v, x.curve(0, 0, 0, 0, v), -1);
            due("curve range is asked first", x.curve(0, v, 0, 0, 0), -1);
        }
        holds("after NONE", x, 3, "2/1 3/1");
        due("still the old curve", x.point(4, 0, 1, 1, 1), 1);
        due("curve, the same again", x.curve(0, 0, 0, 0, 1), 0);
        for (int slot = 0; slot < 8; slot++) {
            holds("after curve", x, slot, "O");
        }
        due("curve at the edge", x.curve(99999, 99999, 99999, 99999, 99999), 0);
        due("curve at the lower edge", x.curve(-99999, -99999, -99999, -99999, -99999), 0);
        // ( x - 36 ) ( x - 36 ) ( x + 72 ): singular with large numbers.
        due("curve large singular", x.curve(0, 0, 0, -3 * 36 * 36, 2 * 36 * 36 * 36), 5);
        due("curve next to it", x.curve(0, 0, 0, -3 * 36 * 36, 2 * 36 * 36 * 36 + 1), 0);
        due("curve x x ( x + 99999 )", x.curve(0, 99999, 0, 0, 0), 5);
        due("curve 99999 x y", x.curve(99999, 0, 0, 0, 0), 5);
    }

    private static void promise3None() {
        ChordPoints x = endless();
        x.times(0, 2, 1);
        due("none(0)", x.none(0), true);
        holds("none", x, 0, "O");
        holds("none leaves others", x, 1, "1/1 0/1");
        due("none(7) holds O already", x.none(7), true);
        for (int slot : NO_SLOTS) {
            due("none(" + slot + ")", x.none(slot), false);
        }
        holds("none of no slot", x, 1, "1/1 0/1");
    }

    private static void promise4Point() {
        ChordPoints x = endless();
        due("point 1/4 -5/8", x.point(1, 1, 4, -5, 8), 1);
        holds("point", x, 1, "1/4 -5/8");
        due("point in other terms", x.point(2, -25, -100, 35, -56), 1);
        holds("point in other terms", x, 2, "1/4 -5/8");
        due("point 0 over the least long", x.point(3, 0, Long.MIN_VALUE, 0, Long.MIN_VALUE), 1);
        holds("point 0", x, 3, "0/1 0/1");
        due("point of least longs", x.point(3, Long.MIN_VALUE, Long.MIN_VALUE, 0, 5), 1);
        holds("point 1", x, 3, "1/1 0/1");
        due("point of largest longs", x.point(3, Long.MAX_VALUE, -Long.MAX_VALUE, 0, -1), 1);
        holds("point -1", x, 3, "-1/1 0/1");
        due("point off", x.point(1, 1, 4, 5, 8), 0);
        due("point off, far", x.point(1, Long.MIN_VALUE, 1, Long.MIN_VALUE, 1), 0);
        due("point off, tiny", x.point(1, 1, Long.MIN_VALUE, 1, Long.MIN_VALUE), 0);
        due("point off, close", x.point(1, Long.MAX_VALUE, Long.MIN_VALUE, -1, Long.MAX_VALUE), 0);
        holds("point off", x, 1, "1/4 -5/8");
        due("point b 0", x.point(1, 0, 0, 0, 1), -1);
        due("point d 0", x.point(1, 0, 1, 0, 0), -1);
        holds("point b or d 0", x, 1, "1/4 -5/8");
        for (int slot : NO_SLOTS) {
            due("point slot " + slot, x.point(slot, 0, 1, 0, 1), -1);
        }
        // x = t t and y = t t t lie on y y = x x x + a4 x - a4 t t.
        due("curve through t = 300", x.curve(0, 0, 0, 1, -90000), 0);
        due("point t = 300", x.point(0, 90000, 1, 27000000, 1), 1);
        holds("point t = 300", x, 0, "90000/1 27000000/1");
        due("point t = 300, y one more", x.point(1, 90000, 1, 27000001, 1), 0);
        due("point t = 300, opposite", x.point(1, 90000L << 40, 1L << 40, 27000000L << 35, -1L << 35), 1);
        holds("point t = 300, opposite", x, 1, "90000/1 -27000000/1");
    }

    private static void promise5Sum() {
        ChordPoints x = endless();
        due("sum doubles", x.sum(0, 0, 1), 1);
        holds("2 P", x, 1, "1/1 0/1");
        due("sum", x.sum(0, 1, 2), 1);
        holds("3 P", x, 2, "-1/1 -1/1");
        due("sum into its own slot", x.sum(1, 2, 1), 1);
        holds("5 P", x, 1, "1/4 -5/8");
        due("sum into the other", x.sum(0, 1, 0), 1);
        holds("6 P", x, 0, "6/1 14/1");
        due("sum all one slot", x.sum(0, 0, 0), 1);
        holds("12 P", x, 0, "1357/841 28888/24389");
        due("sum with O", x.sum(0, 7, 3), 1);
        holds("P + O", x, 3, "1357/841 28888/24389");
        due("sum of O", x.sum(7, 6, 3), 1);
        holds("O + O", x, 3, "O");
        x.point(4, 1, 1, 0, 1);
        x.point(5, 1, 1, -1, 1);
        due("sum of opposites", x.sum(4, 5, 0), 1);
        holds("P - P", x, 0, "O");
        for (int slot : NO_SLOTS) {
            due("sum p " + slot, x.sum(slot, 4, 0), -1);
            due("sum q " + slot, x.sum(4, slot, 0), -1);
            due("sum to " + slot, x.sum(4, 4, slot), -1);
        }
        holds("sum of no slots", x, 0, "O");
        x = endless();
        x.times(0, 50, 1);
        x.times(0, 2, 2);
        due("sum too long", x.sum(1, 1, 2), 0);
        holds("sum too long", x, 2, "1/1 0/1");
        due("sum too long in place", x.sum(1, 1, 1), 0);
        x.times(0, 50, 3);
        due("sum too long changes nothing", x.same(1, 3), true);
        x.curve(0, 0, 0, -1, 0);
        x.point(0, 0, 1, 0, 1);
        x.sum(0, 0, 1);
        holds("2 P of order 2", x, 1, "O");
    }

    private static void promise6Less() {
        ChordPoints x = endless();
        x.times(0, 5, 1);
        due("less", x.less(1, 0, 2), 1);
        holds("4 P", x, 2, "2/1 -3/1");
        due("less the other way", x.less(0, 1, 3), 1);
        holds("-4 P", x, 3, "2/1 2/1");
        due("less of itself", x.less(1, 1, 4), 1);
        holds("P - P", x, 4, "O");
        due("less O", x.less(1, 4, 5), 1);
        holds("P - O", x, 5, "1/4 -5/8");
        due("O less", x.less(4, 1, 5), 1);
        holds("- P", x, 5, "1/4 -3/8");
        due("less of opposites doubles", x.less(2, 3, 6), 1);
        holds("8 P", x, 6, "21/25 -69/125");
        due("less into its own slot", x.less(0, 1, 1), 1);
        holds("-4 P", x, 1, "2/1 2/1");
        for (int slot : NO_SLOTS) {
            due("less p " + slot, x.less(slot, 0, 0), -1);
            due("less q " + slot, x.less(0, slot, 0), -1);
            due("less to " + slot, x.less(0, 0, slot), -1);
        }
        holds("less of no slots", x, 0, "0/1 0/1");
        x.times(0, 50, 1);
        x.times(0, -50, 2);
        due("less too long", x.less(1, 2, 0), 0);
        holds("less too long", x, 0, "0/1 0/1");
        // - P has another y when a1 and a3 are not 0.
        x.curve(1, -1, 1, -14, 29);
        x.point(0, 3, 1, 1, 1);
        x.less(1, 0, 2);
        holds("- P with a1 and a3", x, 2, "3/1 -5/1");
    }

    private static void promise7Times() {
        ChordPoints x = endless();
        due("times 0", x.times(0, 0, 1), 1);
        holds("0 P", x, 1, "O");
        due("times 1", x.times(0, 1, 1), 1);
        holds("1 P", x, 1, "0/1 0/1");
        due("times -1", x.times(0, -1, 1), 1);
        holds("-1 P", x, 1, "0/1 -1/1");
        due("times 7", x.times(0, 7, 1), 1);
        holds("7 P", x, 1, "-5/9 8/27");
        due("times -8", x.times(0, -8, 1), 1);
        holds("-8 P", x, 1, "21/25 -56/125");
        due("times of O", x.times(7, 1000000, 2), 1);
        holds("k O", x, 2, "O");
        due("times of O", x.times(7, -1000000, 2), 1);
        due("times past the edge", x.times(0, 1000001, 1), -1);
        due("times past the lower edge", x.times(0, -1000001, 1), -1);
        due("times largest int", x.times(0, Integer.MAX_VALUE, 1), -1);
        due("times least int", x.times(0, Integer.MIN_VALUE, 1), -1);
        due("times at the edge, too long", x.times(0, 1000000, 1), 0);
        due("times at the lower edge, too long", x.times(0, -1000000, 1), 0);
        holds("times that does not hold", x, 1, "21/25 -56/125");
        for (int slot : NO_SLOTS) {
            due("times p " + slot, x.times(slot, 2, 1), -1);
            due("times to " + slot, x.times(0, 2, slot), -1);
        }
        due("times into its own slot", x.times(0, 6, 0), 1);
        holds("6 P", x, 0, "6/1 14/1");
        // A point of order 6 comes round at the largest factors: 1000000 = 4 mod 6.
        x = new ChordPoints();
        x.point(0, 2, 1, 3, 1);
        due("times 1000000", x.times(0, 1000000, 1), 1);
        holds("4 P", x, 1, "0/1 -1/1");
        due("times 999999", x.times(0, 999999, 1), 1);
        holds("3 P", x, 1, "-1/1 0/1");
        due("times -1000000", x.times(0, -1000000, 1), 1);
        holds("-4 P", x, 1, "0/1 1/1");
        due("times 999996", x.times(0, 999996, 1), 1);
        holds("6 n P", x, 1, "O");
    }

    /** A point of each order that there is, by Tate's normal forms: always ( 0 , 0 ). */
    private static void promise8Order() {
        int[][] cases = {
            // order, a1, a2, a3, a4
            {2, 0, 1, 0, 1},
            {3, 1, 0, 1, 0},
            {4, 1, -1, -1, 0},
            {5, 0, -1, -1, 0},
            {6, 0, -2, -2, 0},
            {7, -1, -4, -4, 0},
            {8, -1, -12, -24, 0},
            {9, -3, -12, -12, 0},
            {10, -5, -24, -24, 0},
            {12, 43, -210, -210, 0},
        };
        for (int[] c : cases) {
            ChordPoints x = new ChordPoints();
            String name = "order " + c[0];
            due(name + " curve", x.curve(c[1], c[2], c[3], c[4], 0), 0);
            due(name + " point", x.point(0, 0, 1, 0, 1), 1);
            due(name, x.order(0), c[0]);
            for (int k = 1; k <= c[0]; k++) {
                due(name + " times " + k, x.times(0, k, 1), 1);
                due(name + " times " + k + " is O", x.isNone(1), k == c[0]);
                due(name + " order of times " + k, x.order(1), c[0] / common(c[0], k));
            }
            due(name + " times 999999", x.times(0, 999999, 2), 1);
            x.times(0, 999999 % c[0], 3);
            due(name + " comes round", x.same(2, 3), true);
        }
        ChordPoints x = endless();
        due("order of O", x.order(7), 1);
        due("no order", x.order(0), 0);
        x.times(0, 55, 1);
        due("no order, long", x.order(1), 0);
        holds("order changes nothing", x, 0, "0/1 0/1");
        for (int slot : NO_SLOTS) {
            due("order(" + slot + ")", x.order(slot), -1);
        }
        due("curve with order 2 in quarters", x.curve(1, 4, 0, 1, 0), 0);
        due("point in quarters", x.point(0, -1, 4, 1, 8), 1);
        due("order in quarters", x.order(0), 2);
        due("sum in quarters", x.sum(0, 0, 1), 1);
        holds("sum in quarters", x, 1, "O");
    }

    private static int common(int a, int b) {
        return b == 0 ? a : common(b, a % b);
    }

    private static void promise9IsNone() {
        ChordPoints x = endless();
        due("isNone(0)", x.isNone(0), false);
        for (int slot = 1; slot < 8; slot++) {
            due("isNone(" + slot + ")", x.isNone(slot), true);
        }
        for (int slot : NO_SLOTS) {
            due("isNone(" + slot + ")", x.isNone(slot), false);
        }
    }

    private static void promise10Same() {
        ChordPoints x = endless();
        x.times(0, 5, 1);
        x.times(0, -5, 2);
        x.point(3, 2, 8, -10, 16);
        due("same itself", x.same(1, 1), true);
        due("same in other terms", x.same(1, 3), true);
        due("same opposite", x.same(1, 2), false);
        due("same point and O", x.same(0, 7), false);
        due("same O and point", x.same(7, 0), false);
        due("same O and O", x.same(6, 7), true);
        x.none(1);
        due("same after none", x.same(1, 3), false);
        due("same O after none", x.same(1, 7), true);
        for (int slot : NO_SLOTS) {
            due("same(" + slot + ", 0)", x.same(slot, 0), false);
            due("same(0, " + slot + ")", x.same(0, slot), false);
            due("same(" + slot + ", " + slot + ")", x.same(slot, slot), false);
        }
    }

    private static void promise11To13Numbers() {
        ChordPoints x = endless();
        x.times(0, -10, 1);
        int[] count = {3, 2, 4, 2};
        String[] text = {"161", "16", "2001", "64"};
        for (int what = 0; what < 4; what++) {
            due("digits(1, " + what + ")", x.digits(1, what), count[what]);
            due("sign(1, " + what + ")", x.sign(1, what), 2);
            for (int i = 0; i < count[what]; i++) {
                due("digitAt(1, " + what + ", " + i + ")", x.digitAt(1, what, i), text[what].charAt(i) - '0');
            }
            int[] noDigits = {-1, count[what], count[what] + 1, 9, 120, Integer.MIN_VALUE, Integer.MAX_VALUE};
            for (int i : noDigits) {
                due("digitAt(1, " + what + ", " + i + ")", x.digitAt(1, what, i), -1);
            }
            due("digits of O", x.digits(7, what), -1);
            due("digitAt of O", x.digitAt(7, what, 0), -1);
            due("sign of O", x.sign(7, what), -1);
            for (int slot : NO_SLOTS) {
                due("digits of no slot", x.digits(slot, what), -1);
                due("digitAt of no slot", x.digitAt(slot, what, 0), -1);
                due("sign of no slot", x.sign(slot, what), -1);
            }
        }
        int[] others = {-1, 4, 5, Integer.MIN_VALUE, Integer.MAX_VALUE};
        for (int what : others) {
            due("digits what " + what, x.digits(1, what), -1);
            due("digitAt what " + what, x.digitAt(1, what, 0), -1);
            due("sign what " + what, x.sign(1, what), -1);
        }
        due("digits of 0", x.digits(0, 0), 1);
        due("digitAt of 0", x.digitAt(0, 0, 0), 0);
        due("digitAt of 0, second", x.digitAt(0, 0, 1), -1);
        due("sign of 0", x.sign(0, 2), 1);
        x.times(0, 7, 2);
        due("sign below 0", x.sign(2, 0), 0);
        due("sign of the lower part", x.sign(2, 1), 2);
        due("curve", x.curve(0, 0, 0, 1, -90000), 0);
        due("point 90000", x.point(0, 90000, 1, 27000000, 1), 1);
        due("digits 27000000", x.digits(0, 2), 8);
        due("digitAt 27000000, highest", x.digitAt(0, 2, 0), 2);
        due("digitAt 27000000, lowest", x.digitAt(0, 2, 7), 0);
    }

    private static int longest(ChordPoints x, int slot) {
        int most = 0;
        for (int what = 0; what < 4; what++) {
            most = Math.max(most, x.digits(slot, what));
        }
        return most;
    }

    /** 120 digits are not TOO LONG, 121 are; what is only on the way may be longer. */
    private static void tooLongEdge() {
        ChordPoints x = new ChordPoints();
        // 14 P has 120 digits, -14 P has 121.
        x.curve(-9, -4, -7, -28, 60);
        x.point(0, 3, 1, 1, 1);
        due("120 digits", x.times(0, 14, 1), 1);
        due("120 digits", longest(x, 1), 120);
        due("121 digits, times", x.times(0, -14, 2), 0);
        due("121 digits, times -1", x.times(1, -1, 2), 0);
        due("121 digits, less", x.less(7, 1, 2), 0);
        holds("121 digits", x, 2, "O");
        due("121 digits on the way to O", x.less(1, 1, 3), 1);
        holds("121 digits on the way to O", x, 3, "O");
        due("121 digits on the way to -13 P", x.less(0, 1, 3), 1);
        due("-13 P", x.times(0, -13, 4), 1);
        due("-13 P", x.same(3, 4), true);
        // 9 P has 121 digits, -9 P has 120.
        x.curve(-5, 6, -9, 25, -100);
        x.point(0, 2, 1, 1, 1);
        due("9 P", x.times(0, 9, 1), 0);
        due("-9 P", x.times(0, -9, 1), 1);
        due("-9 P", longest(x, 1), 120);
        due("9 P from -9 P", x.less(2, 1, 2), 0);
        // 119 P has 121 digits, 120 P has fewer.
        x.curve(5, -10, 40, -275, 825);
        x.point(0, 0, 1, -55, 1);
        due("118 P", x.times(0, 118, 1), 1);
        due("119 P", x.times(0, 119, 2), 0);
        due("119 P as a sum", x.sum(1, 0, 2), 0);
        due("120 P", x.times(0, 120, 2), 1);
        due("120 P", longest(x, 2), 119);
        x.sum(0, 0, 3);
        due("120 P as a sum", x.sum(1, 3, 3), 1);
        due("120 P as a sum", x.same(2, 3), true);
        due("121 P", x.times(0, 121, 2), 0);
        due("120 P less P", x.less(3, 0, 2), 0);
        due("slot 2 is as it was", x.same(2, 3), true);
    }

    public static void main(String[] args) {
        promise1NewObject();
        promise2Curve();
        promise3None();
        promise4Point();
        promise5Sum();
        promise6Less();
        promise7Times();
        promise8Order();
        promise9IsNone();
        promise10Same();
        promise11To13Numbers();
        tooLongEdge();
        System.out.println(asked + " answers compared, " + wrong + " wrong");
        if (wrong != 0) {
            System.exit(1);
        }
    }
}
