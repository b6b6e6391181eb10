import java.util.Arrays;

/**
 * One test for each sentence of the document that names a boundary case, on
 * both sides of the boundary where it has two.
 *
 * A call is written as its name and its arguments; a boolean counts 1 or 0.
 */
public final class BoundariesTest {
    private static final long LEAST = Long.MIN_VALUE;
    private static final long LARGEST = Long.MAX_VALUE;
    private static final int[] NO_SLOTS = {-1, 8, Integer.MIN_VALUE, Integer.MAX_VALUE};

    /** What full() holds: P to 7 P on y y + y = x x x - x, where P = ( 0 , 0 ) has no order, and O. */
    private static final String[] FULL = {
        "0/1 0/1", "1/1 0/1", "-1/1 -1/1", "2/1 -3/1", "1/4 -5/8", "6/1 14/1", "-5/9 8/27", "O"
    };

    private static final String[] EMPTY = {"O", "O", "O", "O", "O", "O", "O", "O"};

    private static String sentence = "";
    private static int sentences = 0;
    private static int asked = 0;
    private static int wrong = 0;

    private static void report(String what) {
        wrong++;
        System.out.println("[" + sentence + "] " + what);
    }

    private static void compare(String what, String got, String want) {
        asked++;
        if (!got.equals(want)) {
            report(what + " " + got + ", due is " + want);
        }
    }

    /** An object with its calls counted, since nothing is promised past the 512th. */
    private static final class Points {
        private final ChordPoints points = new ChordPoints();
        private int calls = 0;

        long ask(String name, long... v) {
            calls++;
            if (calls == 513) {
                report("this test makes more than 512 calls on one object");
            }
            switch (name) {
                case "curve":
                    return points.curve((int) v[0], (int) v[1], (int) v[2], (int) v[3], (int) v[4]);
                case "none":
                    return points.none((int) v[0]) ? 1 : 0;
                case "point":
                    return points.point((int) v[0], v[1], v[2], v[3], v[4]);
                case "sum":
                    return points.sum((int) v[0], (int) v[1], (int) v[2]);
                case "less":
                    return points.less((int) v[0], (int) v[1], (int) v[2]);
                case "times":
                    return points.times((int) v[0], (int) v[1], (int) v[2]);
                case "order":
                    return points.order((int) v[0]);
                case "isNone":
                    return points.isNone((int) v[0]) ? 1 : 0;
                case "same":
                    return points.same((int) v[0], (int) v[1]) ? 1 : 0;
                case "digits":
                    return points.digits((int) v[0], (int) v[1]);
                case "digitAt":
                    return points.digitAt((int) v[0], (int) v[1], (int) v[2]);
                case "sign":
                    return points.sign((int) v[0], (int) v[1]);
                default:
                    throw new IllegalArgumentException(name);
            }
        }

        void due(long want, String name, long... v) {
            compare(name + Arrays.toString(v) + " answered", "" + ask(name, v), "" + want);
        }

        String number(int slot, int what) {
            StringBuilder text = new StringBuilder(ask("sign", slot, what) == 0 ? "-" : "");
            long count = ask("digits", slot, what);
            for (int i = 0; i < count; i++) {
                text.append(ask("digitAt", slot, what, i));
            }
            return text.toString();
        }

        void holds(int slot, String want) {
            String got = ask("isNone", slot) == 1 ? "O"
                    : number(slot, 0) + "/" + number(slot, 1) + " " + number(slot, 2) + "/" + number(slot, 3);
            compare("slot " + slot + " holds", got, want);
        }

        void holdsAll(String... want) {
            for (int slot = 0; slot < want.length; slot++) {
                holds(slot, want[slot]);
            }
        }

        /** More points than five linear conditions on a1 to a6 need; then a tangent. Uses slot 0. */
        void isOnFirstCurve() {
            int[][] on = {{0, -1}, {1, 0}, {1, -1}, {-1, 0}, {-1, -1}, {2, -3}, {6, 14}, {2, 2}};
            for (int[] p : on) {
                due(1, "point", 0, p[0], 1, p[1], 1);
            }
            due(1, "sum", 0, 0, 0);
            holds(0, "21/25 -56/125");
        }
    }

    /** Each slot holds what FULL says. */
    private static Points full() {
        Points x = start(0, 0, 1, -1, 0);
        long[][] all = {
            {0, 1, 0, 1}, {1, 1, 0, 1}, {-1, 1, -1, 1}, {2, 1, -3, 1}, {1, 4, -5, 8}, {6, 1, 14, 1}, {-5, 9, 8, 27}
        };
        for (int slot = 0; slot < all.length; slot++) {
            x.due(1, "point", slot, all[slot][0], all[slot][1], all[slot][2], all[slot][3]);
        }
        return x;
    }

    private static Points start(long... curve) {
        Points x = new Points();
        x.due(0, "curve", curve);
        return x;
    }

    /** With the point ( 0 , 0 ) in slot 0. */
    private static Points startAtZero(long... curve) {
        Points x = start(curve);
        x.due(1, "point", 0, 0, 1, 0, 1);
        return x;
    }

    /** With 66 P in slot 1, which has 120 digits; - 66 P has 121, and 67 P and 132 P are TOO LONG, too. */
    private static Points atTheEdge() {
        Points x = startAtZero(1, -1, 2, -2, 0);
        x.due(1, "times", 0, 66, 1);
        return x;
    }

    /** A call that changes nothing: no slot, and not the curve. */
    private static void idle(long want, String name, long... v) {
        Points x = full();
        x.due(want, name, v);
        x.holdsAll(FULL);
        x.isOnFirstCurve();
    }

    /** A call whose point would be TOO LONG: all slots and the curve are as before. Slot 1 has 66 P. */
    private static void idleAtTheEdge(String name, long... v) {
        Points x = atTheEdge();
        String[] small = {"0/1 0/1", "", "1/1 -2/1", "2/1 0/1", "-1/1 -1/1", "3/4 -7/8", "224/169 -1834/2197", "O"};
        int[] factors = {1, 66, 2, 3, 4, 6, 11};
        for (int slot = 2; slot < 7; slot++) {
            x.due(1, "times", 0, factors[slot], slot);
        }
        x.due(0, name, v);
        for (int slot = 0; slot < 8; slot++) {
            if (slot != 1) {
                x.holds(slot, small[slot]);
            }
        }
        x.due(1, "times", 0, 66, 7);
        x.due(1, "same", 1, 7);
        x.due(1, "point", 7, 15, 1, 48, 1);
        x.due(1, "point", 7, 65, 49, -855, 343);
        x.due(0, "point", 7, 65, 49, 855, 343);
    }

    /** A call that changes one slot, and not the curve. */
    private static void changes(int slot, String to, long want, String name, long... v) {
        Points x = full();
        x.due(want, name, v);
        String[] all = FULL.clone();
        all[slot] = to;
        x.holdsAll(all);
        x.isOnFirstCurve();
    }

    // What it is, and the terms.

    private static void call512IsStillPromised() {
        Points x = atTheEdge();
        for (int n = 3; n < 511; n += 4) {
            x.due(0, "sum", 1, 1, 2);
            x.due(0, "times", 1, 3, 1);
            x.due(1, "less", 1, 0, 2);
            x.due(1, "sum", 2, 0, 2);
        }
        x.due(1, "same", 1, 2);
        compare("calls", "" + x.calls, "512");
    }

    private static void aCurveIsSingularWhenTheSumIsZero() {
        long[][] singular = {
            {3, -1, -8, -5, 5}, // a node at ( 2 , 1 )
            {4, -7, 6, -9, -10}, // a cusp at ( 1 , -5 )
        };
        for (long[] c : singular) {
            new Points().due(5, "curve", c);
            for (int i = 0; i < 5; i++) {
                for (int step = -1; step <= 1; step += 2) {
                    long[] near = c.clone();
                    near[i] += step;
                    new Points().due(0, "curve", near);
                }
            }
        }
        // A point alone at ( 0 , 0 ), and a curve beside it.
        new Points().due(5, "curve", 0, -4, 0, 0, 0);
        new Points().due(0, "curve", 0, -4, 0, 0, -1);
    }

    private static void aSumOfZeroAfterWrapAroundIsNotSingular() {
        // The sum is 257 times 2 to the 64th; then 1000016 times 10 to the 18th.
        new Points().due(0, "curve", 1024, 512, 0, 65536, 0);
        new Points().due(0, "curve", 10000, 200, 0, 10000, 0);
        new Points().due(5, "curve", 99999, 99999, 0, 0, 0);
        new Points().due(0, "curve", 99999, 99999, 0, 0, 1);
        new Points().due(0, "curve", 99999, 99999, 0, 0, -1);
    }

    private static void aLineThatTouchesMeetsTwice() {
        Points x = full();
        // The tangent at P, met as tangent and as chord through P and the third point.
        x.due(1, "sum", 0, 0, 7);
        x.holds(7, "1/1 0/1");
        x.due(1, "less", 0, 1, 7);
        x.holds(7, "0/1 -1/1");
        x.due(1, "less", 1, 0, 7);
        x.holds(7, "0/1 0/1");
    }

    private static void aLineThatTouchesMayMeetThrice() {
        Points x = start(0, 0, 0, 0, 1);
        x.due(1, "point", 0, 0, 1, 1, 1);
        x.due(1, "sum", 0, 0, 1);
        x.holds(1, "0/1 -1/1");
        x.due(1, "sum", 0, 1, 1);
        x.holds(1, "O");
    }

    private static void aLineStraightUpMeetsNone() {
        Points x = full();
        x.due(1, "point", 0, 1, 4, -3, 8);
        x.due(1, "sum", 0, 4, 0);
        x.holds(0, "O");
        // Straight up and touching.
        x.due(0, "curve", 0, 0, 0, -1, 0);
        x.due(1, "point", 0, 1, 1, 0, 1);
        x.due(1, "sum", 0, 0, 1);
        x.holds(1, "O");
        // Both with a1 and a3.
        x.due(0, "curve", 1, 0, 1, -2, 0);
        x.due(1, "point", 0, 1, 1, -1, 1);
        x.due(1, "sum", 0, 0, 1);
        x.holds(1, "O");
        x.due(1, "point", 0, 0, 1, 0, 1);
        x.due(1, "point", 1, 0, 1, -1, 1);
        x.due(1, "sum", 0, 1, 2);
        x.holds(2, "O");
    }

    private static void noneChangesNothingInASum() {
        changes(0, FULL[4], 1, "sum", 4, 7, 0);
        changes(0, FULL[4], 1, "sum", 7, 4, 0);
        changes(0, "O", 1, "sum", 7, 7, 0);
        changes(0, FULL[4], 1, "less", 4, 7, 0);
        changes(0, "1/4 -3/8", 1, "less", 7, 4, 0);
        changes(0, "O", 1, "less", 7, 7, 0);
        changes(0, "O", 1, "times", 7, 3, 0);
    }

    private static void slotsThatACallNamesMayBeTheSame() {
        changes(0, "1/1 0/1", 1, "sum", 0, 0, 0);
        changes(1, "2/1 -3/1", 1, "sum", 1, 1, 1);
        changes(1, "6/1 14/1", 1, "sum", 1, 3, 1);
        changes(3, "6/1 14/1", 1, "sum", 1, 3, 3);
        changes(7, "6/1 14/1", 1, "sum", 2, 2, 7);
        changes(1, "O", 1, "less", 1, 1, 1);
        changes(1, "1/1 -1/1", 1, "less", 1, 3, 1);
        changes(3, "1/1 -1/1", 1, "less", 1, 3, 3);
        changes(3, "1/1 0/1", 1, "less", 3, 1, 3);
        changes(2, "-1/1 0/1", 1, "times", 2, -1, 2);
        changes(1, "21/25 -69/125", 1, "times", 1, 4, 1);
        Points x = full();
        x.due(1, "same", 4, 4);
        x.due(1, "same", 7, 7);
    }

    private static void fractionsAreInLowestTermsTheLowerPartAboveZero() {
        String[] ways = {
            "1 4 -5 8", "-1 -4 5 -8", "7 28 -15 24", "-1000000000 -4000000000 625 -1000"
        };
        for (String way : ways) {
            String[] v = way.split(" ");
            changes(7, "1/4 -5/8", 1, "point", 7, Long.parseLong(v[0]), Long.parseLong(v[1]),
                    Long.parseLong(v[2]), Long.parseLong(v[3]));
        }
        changes(7, "0/1 0/1", 1, "point", 7, 0, -9, 0, -12);
        changes(7, "0/1 -1/1", 1, "point", 7, 0, LARGEST, LARGEST, -LARGEST);
    }

    /**
     * 66 P has 118 over 120 digits in y, - 66 P has 121 over 120. There is no
     * such test of x: it has far fewer digits than y when it has many.
     */
    private static void tooLongIsMoreThan120DigitsAboveInY() {
        Points x = atTheEdge();
        x.due(118, "digits", 1, 2);
        x.due(120, "digits", 1, 3);
        x.due(0, "times", 0, -66, 1);
        x.due(0, "times", 1, -1, 1);
        x.due(0, "less", 7, 1, 1);
        x.due(118, "digits", 1, 2);
        // 120 digits above are not: - 46 P, with 119 below.
        x.due(0, "curve", -2, -2, -2, -4, 0);
        x.due(1, "point", 0, 0, 1, 0, 1);
        x.due(1, "times", 0, -46, 1);
        x.due(120, "digits", 1, 2);
        x.due(119, "digits", 1, 3);
    }

    /** - 25 P has 117 over 121 digits in y, and no more than 81 in x. */
    private static void tooLongIsMoreThan120DigitsBelowInY() {
        Points x = startAtZero(-1, 3, 1, 0, 0);
        x.due(0, "times", 0, -25, 1);
        x.due(1, "times", 0, -24, 1);
        x.due(0, "less", 1, 0, 2);
        x.due(1, "isNone", 2);
        x.due(0, "curve", 1, -1, 2, -2, 0);
        x.due(1, "point", 0, 0, 1, 0, 1);
        x.due(1, "times", 0, 66, 1);
        x.due(120, "digits", 1, 3);
    }

    // Promise 1: A new object.

    private static void aNewObjectHasYYIsXXXPlus1() {
        Points x = new Points();
        int[][] on = {{0, 1}, {0, -1}, {-1, 0}, {2, 3}, {2, -3}};
        for (int[] p : on) {
            x.due(1, "point", 0, p[0], 1, p[1], 1);
        }
        int[][] off = {{0, 0}, {1, 1}, {-1, 1}, {2, 4}, {1, 0}};
        for (int[] p : off) {
            x.due(0, "point", 0, p[0], 1, p[1], 1);
        }
        x.due(1, "sum", 0, 0, 0);
        x.holds(0, "0/1 -1/1");
    }

    private static void aNewObjectHoldsNoneInAllSlots() {
        Points other = full();
        new Points().holdsAll(EMPTY);
        other.holdsAll(FULL);
    }

    // Promise 2: curve.

    private static void afterACurveAllSlotsHoldNone() {
        Points x = full();
        x.due(1, "point", 7, 6, 1, 14, 1);
        x.due(0, "curve", 0, 0, 1, -1, 0);
        x.holdsAll(EMPTY);
        x.isOnFirstCurve();
        x = full();
        x.due(1, "point", 7, 6, 1, 14, 1);
        x.due(0, "curve", 0, 0, 0, 0, 1);
        x.holdsAll(EMPTY);
        x.due(1, "point", 7, 2, 1, 3, 1);
        x.due(0, "point", 7, 0, 1, 0, 1);
    }

    private static void aSingularCurveChangesNothing() {
        idle(5, "curve", 0, 0, 0, 0, 0);
        idle(5, "curve", 0, 0, 0, -3, 2);
        idle(5, "curve", 3, -1, -8, -5, 5);
        idle(5, "curve", -99999, 99999, 0, 0, 0);
    }

    private static void eachNumberOfACurveMayBe99999() {
        for (int i = 0; i < 5; i++) {
            for (long edge : new long[] {-99999, 99999}) {
                long[] c = {0, 0, 0, 0, 1};
                c[i] = edge;
                Points x = full();
                x.due(0, "curve", c);
                x.holdsAll(EMPTY);
            }
        }
        start(99999, 99999, 99999, 99999, 99999);
        start(-99999, -99999, -99999, -99999, -99999);
    }

    private static void aNumberOfACurvePast99999ChangesNothing() {
        for (int i = 0; i < 5; i++) {
            for (long past : new long[] {-100000, 100000, Integer.MIN_VALUE, Integer.MAX_VALUE}) {
                long[] c = {0, 0, 0, 0, 1};
                c[i] = past;
                idle(-1, "curve", c);
            }
        }
    }

    private static void theNumbersOfACurveAreAskedFirst() {
        idle(-1, "curve", 100000, 0, 0, 0, 0);
        idle(-1, "curve", 0, 100000, 0, 0, 0);
        idle(-1, "curve", 0, -100000, 0, 0, 0);
        // ( x - 1000 ) ( x - 1000 ) ( x + 2000 )
        idle(-1, "curve", 0, 0, 0, -3000000, 2000000000);
        idle(5, "curve", 0, 99999, 0, 0, 0);
    }

    // Promise 3: none.

    private static void aSlotComesToHoldNone() {
        for (int slot = 0; slot < 8; slot++) {
            changes(slot, "O", 1, "none", slot);
        }
    }

    private static void noneIsFalseWithoutSuchASlot() {
        for (int slot : NO_SLOTS) {
            idle(0, "none", slot);
        }
    }

    // Promise 4: point.

    private static void aSlotComesToHoldAPoint() {
        for (int slot = 0; slot < 8; slot++) {
            changes(slot, "21/25 -69/125", 1, "point", slot, 21, 25, -69, 125);
        }
        changes(3, FULL[3], 1, "point", 3, 2, 1, -3, 1);
    }

    private static void aPointOffTheCurveChangesNothing() {
        idle(0, "point", 4, 1, 4, 5, 8);
        idle(0, "point", 4, 1, 4, -4, 8);
        idle(0, "point", 4, 1, 4, -6, 8);
        idle(0, "point", 4, 2, 4, -5, 8);
        idle(0, "point", 4, 1, 5, -5, 8);
        idle(0, "point", 4, 1, 4, -5, 7);
        idle(0, "point", 7, 1, 1, 1, 1);
        idle(0, "point", 0, 1, 2, 0, 1);
    }

    private static void aPointOnTheCurveOnlyAfterWrapAroundIsOff() {
        idle(0, "point", 4, LEAST, 1, LEAST, 1);
        idle(0, "point", 4, 1L << 32, 1, -1L << 32, 1);
        idle(0, "point", 4, LEAST, 1, 0, 1);
        idle(0, "point", 4, 0, 1, LEAST, 1);
        idle(0, "point", 4, 1, LEAST, 1, LEAST);
        idle(0, "point", 4, LEAST, -1, LEAST, -1);
        idle(0, "point", 4, 1000000000000000000L, 1, 0, 1);
        idle(0, "point", 4, 0, 1, 1000000000000000000L, 1);
    }

    private static void aPointMayHaveTheLeastAndLargestLongs() {
        changes(7, "1/1 0/1", 1, "point", 7, LEAST, LEAST, 0, LEAST);
        changes(7, "1/4 -5/8", 1, "point", 7, LEAST / 4, LEAST, 5L << 60, LEAST);
        changes(7, "-1/1 -1/1", 1, "point", 7, -LARGEST, LARGEST, LARGEST, -LARGEST);
        changes(7, "2/1 -3/1", 1, "point", 7, LEAST, LEAST / 2, 3L << 61, LEAST / 4);
    }

    /** A large point near x x x, and the last multiple of P whose four numbers fit longs with room. */
    private static void aPointMayHaveNumbersOfManyDigits() {
        Points x = start(0, 282, 0, 26508, -21551);
        long far = 952764389352L;
        long high = 929989991784733049L;
        x.due(1, "point", 0, far, 1, high, 1);
        x.holds(0, "952764389352/1 929989991784733049/1");
        x.due(1, "point", 0, far * -9680000, -9680000, high * -9, 9);
        x.holds(0, "952764389352/1 -929989991784733049/1");
        for (int step = -1; step <= 1; step += 2) {
            x.due(0, "point", 0, far + step, 1, high, 1);
            x.due(0, "point", 0, far, 1, high + step, 1);
            x.due(0, "point", 0, far * 9680000 + step, 9680000, high, 1);
            x.due(0, "point", 0, far, 1, high * 9 + step, 9);
        }
        x.holds(0, "952764389352/1 -929989991784733049/1");
        changes(7, "-270896443865/384768368209 66316334575107447/238670664494938073", 1, "point", 7,
                -270896443865L, 384768368209L, 66316334575107447L, 238670664494938073L);
        idle(0, "point", 7, -270896443865L, 384768368209L, 66316334575107447L, 238670664494938074L);
        idle(0, "point", 7, -270896443866L, 384768368209L, 66316334575107447L, 238670664494938073L);
    }

    private static void aPointNeedsASlot() {
        for (int slot : NO_SLOTS) {
            idle(-1, "point", slot, 1, 4, -5, 8);
            idle(-1, "point", slot, 1, 4, 5, 8);
        }
    }

    private static void aPointNeedsLowerPartsThatAreNot0() {
        idle(-1, "point", 4, 0, 0, 0, 1);
        idle(-1, "point", 4, 1, 0, 0, 1);
        idle(-1, "point", 4, 0, 1, 0, 0);
        idle(-1, "point", 4, 0, 1, 1, 0);
        idle(-1, "point", 4, 0, 0, 0, 0);
        idle(-1, "point", 4, LEAST, 0, LEAST, 0);
        idle(-1, "point", 8, 0, 0, 0, 0);
        changes(4, FULL[0], 1, "point", 4, 0, 1, 0, 1);
        changes(4, FULL[0], 1, "point", 4, 0, -1, 0, -1);
    }

    // Promise 5: sum.

    private static void aSlotComesToHoldASum() {
        for (int slot = 0; slot < 8; slot++) {
            changes(slot, "-20/49 -435/343", 1, "sum", 3, 4, slot);
        }
        changes(7, "1/1 0/1", 1, "sum", 0, 0, 7);
        changes(0, FULL[0], 1, "sum", 0, 7, 0);
    }

    private static void aSumThatIsTooLongChangesNothing() {
        // 66 P has 120 digits below, 67 P more than 120.
        Points x = startAtZero(1, -1, 2, -2, 0);
        x.due(1, "times", 0, 65, 1);
        x.due(1, "sum", 0, 1, 2);
        x.due(120, "digits", 2, 3);
        x.due(1, "times", 0, 66, 3);
        x.due(1, "same", 2, 3);
        x.due(0, "sum", 0, 2, 2);
        x.due(0, "sum", 2, 0, 0);
        x.due(0, "sum", 2, 2, 2);
        x.due(0, "sum", 2, 3, 7);
        x.due(1, "same", 2, 3);
        x.holds(0, "0/1 0/1");
        x.due(1, "isNone", 7);
        x.due(1, "less", 2, 0, 2);
        x.due(1, "same", 1, 2);
        for (int slot = 0; slot < 8; slot++) {
            idleAtTheEdge("sum", 0, 1, slot);
            idleAtTheEdge("sum", 1, 1, slot);
            idleAtTheEdge("sum", 1, slot == 7 ? 6 : Math.max(slot, 1), slot);
        }
    }

    private static void aSumMayFollowOneThatIsTooLong() {
        // 119 P has 121 digits, 120 P has 119.
        Points x = start(5, -10, 40, -275, 825);
        x.due(1, "point", 0, 0, 1, -55, 1);
        x.due(1, "times", 0, 118, 1);
        x.due(0, "sum", 0, 1, 2);
        x.due(1, "isNone", 2);
        x.due(1, "sum", 0, 0, 2);
        x.due(1, "sum", 1, 2, 2);
        x.due(1, "times", 0, 120, 3);
        x.due(1, "same", 2, 3);
        x.due(119, "digits", 2, 3);
    }

    private static void aSumNeedsThreeSlots() {
        for (int slot : NO_SLOTS) {
            idle(-1, "sum", slot, 1, 2);
            idle(-1, "sum", 1, slot, 2);
            idle(-1, "sum", 1, 2, slot);
            idle(-1, "sum", slot, 7, 7);
            idle(-1, "sum", slot, slot, slot);
        }
    }

    private static void aSumWithoutSlotsIsNotAskedForItsLength() {
        Points x = atTheEdge();
        x.due(0, "sum", 1, 1, 2);
        x.due(-1, "sum", 1, 1, 8);
        x.due(-1, "sum", 1, 1, -1);
    }

    // Promise 6: less.

    private static void aSlotComesToHoldADifference() {
        for (int slot = 0; slot < 8; slot++) {
            changes(slot, "1/1 0/1", 1, "less", 6, 4, slot);
        }
        changes(7, "1/1 -1/1", 1, "less", 4, 6, 7);
    }

    private static void aPointLessItselfIsNone() {
        for (int slot = 0; slot < 8; slot++) {
            changes(5, "O", 1, "less", slot, slot, 5);
        }
    }

    private static void aPointLessItsOppositeIsTwiceThePoint() {
        Points x = full();
        x.due(1, "point", 7, 1, 4, -3, 8);
        x.due(1, "less", 4, 7, 0);
        x.holds(0, "161/16 -2065/64");
        x.due(1, "less", 7, 4, 0);
        x.holds(0, "161/16 2001/64");
    }

    private static void aDifferenceThatIsTooLongChangesNothing() {
        Points x = startAtZero(1, -1, 2, -2, 0);
        x.due(1, "times", 0, -1, 3);
        x.due(1, "times", 0, 65, 1);
        x.due(1, "less", 1, 3, 2);
        x.due(120, "digits", 2, 3);
        x.due(1, "times", 0, 66, 4);
        x.due(0, "less", 2, 3, 2);
        x.due(0, "less", 2, 3, 3);
        x.due(0, "less", 7, 2, 2);
        x.due(1, "same", 2, 4);
        x.due(1, "times", 0, -1, 5);
        x.due(1, "same", 3, 5);
        for (int slot = 0; slot < 8; slot++) {
            idleAtTheEdge("less", 7, 1, slot);
        }
    }

    /** - 66 P alone has 121 digits, but here it is only on the way. */
    private static void aDifferenceMayHaveAnOppositeThatIsTooLong() {
        Points x = atTheEdge();
        x.due(0, "less", 7, 1, 2);
        x.due(1, "less", 1, 1, 2);
        x.due(1, "isNone", 2);
        x.due(1, "less", 0, 1, 2);
        x.due(1, "times", 0, -65, 3);
        x.due(1, "same", 2, 3);
        x.due(0, "times", 1, -1, 2);
        x.due(1, "same", 2, 3);
    }

    private static void aDifferenceNeedsThreeSlots() {
        for (int slot : NO_SLOTS) {
            idle(-1, "less", slot, 1, 2);
            idle(-1, "less", 1, slot, 2);
            idle(-1, "less", 1, 2, slot);
            idle(-1, "less", 7, slot, 7);
            idle(-1, "less", slot, slot, slot);
        }
    }

    private static void aDifferenceWithoutSlotsIsNotAskedForItsLength() {
        Points x = atTheEdge();
        x.due(0, "less", 7, 1, 2);
        x.due(-1, "less", 7, 1, 8);
        x.due(-1, "less", 7, 1, -1);
        x.due(-1, "less", 1, 0, 8);
    }

    // Promise 7: times.

    private static void aSlotComesToHoldAMultiple() {
        for (int slot = 0; slot < 8; slot++) {
            changes(slot, "-20/49 -435/343", 1, "times", 2, 3, slot);
        }
    }

    private static void zeroTimesIsNone() {
        changes(3, "O", 1, "times", 4, 0, 3);
        changes(4, "O", 1, "times", 4, 0, 4);
        changes(4, "O", 1, "times", 7, 0, 4);
    }

    private static void oneTimesIsThePointAndMinusOneTheOpposite() {
        changes(3, FULL[4], 1, "times", 4, 1, 3);
        changes(3, "1/4 -3/8", 1, "times", 4, -1, 3);
        changes(3, "161/16 -2065/64", 1, "times", 4, 2, 3);
        changes(3, "161/16 2001/64", 1, "times", 4, -2, 3);
        changes(3, "O", 1, "times", 7, 1, 3);
        changes(3, "O", 1, "times", 7, -1, 3);
    }

    private static void aMultipleThatIsTooLongChangesNothing() {
        Points x = startAtZero(1, -1, 2, -2, 0);
        x.due(1, "times", 0, 65, 1);
        x.due(1, "times", 0, 66, 2);
        x.due(120, "digits", 2, 3);
        x.due(1, "sum", 0, 1, 1);
        x.due(1, "same", 1, 2);
        for (int k : new int[] {67, -66, -67, 68, 128, 1000, 65536, 999999, 1000000, -1000000}) {
            x.due(0, "times", 0, k, 1);
            x.due(0, "times", 0, k, 7);
        }
        x.due(0, "times", 1, 2, 1);
        x.due(0, "times", 1, -2, 1);
        x.due(1, "same", 1, 2);
        x.due(1, "isNone", 7);
        x.due(0, "times", 0, 67, 0);
        x.holds(0, "0/1 0/1");
        for (int slot = 0; slot < 8; slot++) {
            idleAtTheEdge("times", 0, 67, slot);
            idleAtTheEdge("times", 0, -66, slot);
            idleAtTheEdge("times", 1, -1, slot);
            idleAtTheEdge("times", 1, 2, slot);
            idleAtTheEdge("times", 6, 1000000, slot);
            idleAtTheEdge("times", 6, -1000000, slot);
        }
    }

    private static void aMultipleMayFollowOneThatIsTooLong() {
        Points x = start(5, -10, 40, -275, 825);
        x.due(1, "point", 0, 0, 1, -55, 1);
        x.due(1, "times", 0, 118, 1);
        x.due(0, "times", 0, 119, 1);
        x.due(1, "times", 0, 120, 2);
        x.due(119, "digits", 2, 3);
        x.due(0, "times", 0, 121, 2);
        x.due(1, "times", 0, 2, 3);
        x.due(1, "sum", 1, 3, 1);
        x.due(1, "same", 1, 2);
        // The last doubling on the way to - 135 P is - 134 P, which has 121 digits.
        x.due(0, "curve", -593, -87830, -210, -63000, 0);
        x.due(1, "point", 0, 0, 1, 0, 1);
        x.due(0, "times", 0, -134, 1);
        x.due(1, "times", 0, -135, 1);
        x.due(120, "digits", 1, 2);
        x.due(1, "times", 0, -133, 2);
        x.due(1, "times", 0, 2, 3);
        x.due(1, "less", 2, 3, 2);
        x.due(1, "same", 1, 2);
    }

    private static void aMultipleNeedsTwoSlots() {
        for (int slot : NO_SLOTS) {
            for (int k = -1; k <= 2; k++) {
                idle(-1, "times", slot, k, 1);
                idle(-1, "times", 1, k, slot);
                idle(-1, "times", slot, k, slot);
            }
        }
    }

    private static void aMultipleWithoutSlotsIsNotAskedForItsLength() {
        Points x = atTheEdge();
        x.due(0, "times", 1, 2, 2);
        x.due(-1, "times", 1, 2, 8);
        x.due(-1, "times", 1, 2, -1);
        x.due(-1, "times", 1, 1000001, 2);
        x.due(-1, "times", 1, -1000001, 2);
    }

    private static void aFactorMayBe1000000() {
        changes(3, "O", 1, "times", 7, 1000000, 3);
        changes(3, "O", 1, "times", 7, -1000000, 3);
        idle(0, "times", 0, 1000000, 3);
        idle(0, "times", 0, -1000000, 3);
        // Of order 6, and 1000000 is 4 more than a multiple of 6.
        Points x = new Points();
        x.due(1, "point", 0, 2, 1, 3, 1);
        x.due(1, "times", 0, 1000000, 1);
        x.due(1, "times", 0, -1000000, 2);
        x.due(1, "times", 0, 999999, 3);
        x.holdsAll("2/1 3/1", "0/1 -1/1", "0/1 1/1", "-1/1 0/1");
    }

    private static void aFactorPast1000000ChangesNothing() {
        for (int k : new int[] {1000001, -1000001, Integer.MAX_VALUE, Integer.MIN_VALUE}) {
            idle(-1, "times", 0, k, 3);
            idle(-1, "times", 7, k, 3);
            idle(-1, "times", 8, k, 3);
            idle(-1, "times", 0, k, -1);
            Points x = new Points();
            x.due(1, "point", 0, 2, 1, 3, 1);
            x.due(-1, "times", 0, k, 1);
            x.due(1, "isNone", 1);
        }
    }

    // Promise 8: order.

    /** A point of each order that there is, by Tate's normal forms: always ( 0 , 0 ). */
    private static void theOrderIsTheLeastNumber() {
        long[][] cases = {
            {2, 0, 1, 0, 1}, {3, 1, 0, 1, 0}, {4, 1, -1, -1, 0}, {5, 0, -1, -1, 0}, {6, 0, -2, -2, 0},
            {7, -1, -4, -4, 0}, {8, -1, -12, -24, 0}, {9, -3, -12, -12, 0}, {10, -5, -24, -24, 0},
            {12, 43, -210, -210, 0},
        };
        for (long[] c : cases) {
            Points x = startAtZero(c[1], c[2], c[3], c[4], 0);
            for (long k = 1; k <= c[0]; k++) {
                x.due(k == 1 ? c[0] : c[0] / common(c[0], k - 1), "order", k == 1 ? 0 : 1);
                x.due(1, "times", 0, k, 1);
                x.due(k == c[0] ? 1 : 0, "isNone", 1);
            }
            x.due(1, "order", 1);
        }
        // Of order 2, in quarters.
        Points x = start(1, 4, 0, 1, 0);
        x.due(1, "point", 0, -1, 4, 1, 8);
        x.due(2, "order", 0);
    }

    private static long common(long a, long b) {
        return b == 0 ? a : common(b, a % b);
    }

    private static void theOrderOfNoneIs1() {
        for (int slot = 0; slot < 8; slot++) {
            new Points().due(1, "order", slot);
        }
        idle(1, "order", 7);
    }

    private static void theOrderIs0IfThereIsNone() {
        for (int slot = 0; slot < 7; slot++) {
            idle(0, "order", slot);
        }
        Points x = atTheEdge();
        x.due(0, "order", 1);
        // Most of 2 P to 13 P are whole, as with points that have an order.
        x.due(0, "curve", 5, -10, 40, -275, 825);
        x.due(1, "point", 0, 0, 1, -55, 1);
        x.due(0, "order", 0);
    }

    private static void anOrderNeedsASlot() {
        for (int slot : NO_SLOTS) {
            idle(-1, "order", slot);
        }
    }

    // Promise 9: isNone, and promise 10: same.

    private static void isNoneTellsWhetherASlotHoldsNone() {
        for (int slot = 0; slot < 8; slot++) {
            idle(slot == 7 ? 1 : 0, "isNone", slot);
            new Points().due(1, "isNone", slot);
        }
    }

    private static void isNoneIsFalseWithoutSuchASlot() {
        for (int slot : NO_SLOTS) {
            idle(0, "isNone", slot);
            new Points().due(0, "isNone", slot);
        }
    }

    private static void sameTellsWhetherTwoSlotsHoldTheSame() {
        Points x = full();
        for (int p = 0; p < 8; p++) {
            for (int q = 0; q < 8; q++) {
                x.due(p == q ? 1 : 0, "same", p, q);
            }
        }
        x.due(1, "point", 0, 2, 8, 10, -16);
        x.due(1, "same", 0, 4);
        x.due(1, "same", 4, 0);
        // x alike, y not; y alike, x not; both times the same digits but for a sign.
        x.due(1, "point", 0, 1, 4, -3, 8);
        x.due(0, "same", 0, 4);
        x.due(1, "point", 0, 0, 1, 0, 1);
        x.due(0, "same", 0, 1);
        x.due(1, "point", 0, 1, 1, -1, 1);
        x.due(0, "same", 0, 2);
    }

    private static void zeroIsTheSameHoweverItCame() {
        Points x = full();
        x.due(1, "point", 7, 0, -9, 0, -9);
        x.due(1, "same", 0, 7);
        x.due(1, "same", 7, 0);
        x.due(1, "less", 1, 0, 7);
        x.due(1, "same", 0, 7);
        // y comes to 0 by - ( 1 , -1 ).
        x.due(1, "point", 7, 1, 1, -1, 1);
        x.due(1, "times", 7, -1, 7);
        x.due(1, "same", 1, 7);
        x.due(1, "same", 7, 1);
    }

    private static void noneIsTheSameAsNoneAlone() {
        Points x = full();
        // What slot 4 held before is not looked at.
        x.due(1, "none", 4);
        x.due(1, "same", 4, 7);
        x.due(1, "same", 7, 4);
        x.due(1, "point", 7, 1, 4, -5, 8);
        x.due(0, "same", 4, 7);
        x.due(0, "same", 7, 4);
        x.due(1, "none", 7);
        x.due(1, "same", 4, 7);
    }

    private static void sameIsFalseWithoutSuchSlots() {
        for (int slot : NO_SLOTS) {
            idle(0, "same", slot, 0);
            idle(0, "same", 0, slot);
            idle(0, "same", slot, 7);
            idle(0, "same", 7, slot);
            idle(0, "same", slot, slot);
            idle(0, "same", slot, -1);
        }
    }

    // Promise 11: digits, promise 12: digitAt, promise 13: sign.

    /** With ( t t , t t t ) in slot 0. */
    private static Points square(long t) {
        Points x = start(1, t, 1, t, 0);
        x.due(1, "point", 0, t * t, 1, t * t * t, 1);
        return x;
    }

    private static void digitsCountsEachPowerOfTen() {
        long[][] cases = {
            // t, digits of t t, digits of t t t
            {1, 1, 1}, {2, 1, 1}, {3, 1, 2}, {4, 2, 2}, {5, 2, 3}, {9, 2, 3}, {10, 3, 4}, {21, 3, 4}, {22, 3, 5},
            {31, 3, 5}, {32, 4, 5}, {46, 4, 5}, {47, 4, 6}, {99, 4, 6}, {100, 5, 7}, {215, 5, 7}, {216, 5, 8},
            {464, 6, 8}, {465, 6, 9}, {999, 6, 9}, {1000, 7, 10}, {2154, 7, 10}, {2155, 7, 11}, {3162, 7, 11},
            {3163, 8, 11}, {9999, 8, 12}, {10000, 9, 13}, {31622, 9, 14}, {31623, 10, 14}, {99999, 10, 15},
        };
        for (long[] c : cases) {
            Points x = square(c[0]);
            x.due(c[1], "digits", 0, 0);
            x.due(1, "digits", 0, 1);
            x.due(c[2], "digits", 0, 2);
            x.due(1, "digits", 0, 3);
        }
    }

    private static void zeroHasOneDigit() {
        Points x = full();
        x.due(1, "digits", 0, 0);
        x.due(0, "digitAt", 0, 0, 0);
        x.due(-1, "digitAt", 0, 0, 1);
        x.due(1, "digits", 0, 2);
        x.due(0, "digitAt", 0, 2, 0);
        x.due(-1, "digitAt", 0, 2, 1);
    }

    /** 17 P: four numbers of four lengths. */
    private static void theFourNumbersAreToldApart() {
        Points x = full();
        x.due(1, "point", 7, -239785, 2337841, 331948240, 3574558889L);
        x.due(6, "digits", 7, 0);
        x.due(7, "digits", 7, 1);
        x.due(9, "digits", 7, 2);
        x.due(10, "digits", 7, 3);
        x.holds(7, "-239785/2337841 331948240/3574558889");
    }

    /** The arguments of a call of digits, digitAt or sign. */
    private static long[] about(String name, long slot, long what) {
        return name.equals("digitAt") ? new long[] {slot, what, 0} : new long[] {slot, what};
    }

    private static void aNumberNeedsASlot(String name) {
        for (int slot : NO_SLOTS) {
            for (int what = -1; what <= 4; what++) {
                idle(-1, name, about(name, slot, what));
            }
        }
    }

    private static void aNumberNeedsAPointThatIsNotNone(String name) {
        for (int what = -1; what <= 4; what++) {
            idle(-1, name, about(name, 7, what));
            Points x = full();
            x.due(1, "none", 4);
            x.due(-1, name, about(name, 4, what));
            new Points().due(-1, name, about(name, 0, what));
        }
    }

    /** Needs what is due of 1 / 4 and -5 / 8. */
    private static void aNumberIsOneOfFour(String name, int... want) {
        for (int what : new int[] {-1, 4, Integer.MIN_VALUE, Integer.MAX_VALUE}) {
            idle(-1, name, about(name, 4, what));
        }
        for (int what = 0; what < 4; what++) {
            idle(want[what], name, about(name, 4, what));
        }
    }

    private static void digit0IsTheHighest() {
        Points x = square(99999);
        compare("t t", x.number(0, 0), "9999800001");
        compare("t t t", x.number(0, 2), "999970000299999");
        x = square(1000);
        compare("t t t", x.number(0, 2), "1000000000");
        x = square(10000);
        compare("t t", x.number(0, 0), "100000000");
        compare("t t t", x.number(0, 2), "1000000000000");
        x.due(1, "digitAt", 0, 2, 0);
        x.due(0, "digitAt", 0, 2, 1);
        x.due(0, "digitAt", 0, 2, 12);
    }

    private static void aDigitPastTheLowestIsNone() {
        int[] counts = {4, 3, 5, 5};
        String[] lowest = {"7", "1", "8", "9"};
        for (int what = 0; what < 4; what++) {
            Points x = full();
            x.due(1, "point", 7, 1357, 841, 28888, 24389);
            x.due(Integer.parseInt(lowest[what]), "digitAt", 7, what, counts[what] - 1);
            x.due(-1, "digitAt", 7, what, counts[what]);
            x.due(-1, "digitAt", 7, what, counts[what] + 1);
            x.due(-1, "digitAt", 7, what, 9);
            x.due(-1, "digitAt", 7, what, 120);
            x.due(-1, "digitAt", 7, what, Integer.MAX_VALUE);
        }
        // Past a whole limb of nine digits, and after a longer number in the same slot.
        Points x = square(10000);
        x.due(0, "digitAt", 0, 0, 8);
        x.due(-1, "digitAt", 0, 0, 9);
        x.due(1, "point", 0, 0, 1, 0, 1);
        x.due(0, "digitAt", 0, 2, 0);
        x.due(-1, "digitAt", 0, 2, 1);
        x.due(-1, "digitAt", 0, 2, 9);
    }

    private static void aDigitBeforeTheHighestIsNone() {
        for (int what = 0; what < 4; what++) {
            idle(-1, "digitAt", 4, what, -1);
            idle(-1, "digitAt", 4, what, -9);
            idle(-1, "digitAt", 4, what, Integer.MIN_VALUE);
        }
        idle(1, "digitAt", 4, 0, 0);
    }

    private static void aNumberMayHave120Digits() {
        Points x = atTheEdge();
        compare("below in y", x.number(1, 3),
                "800303051242035259197324034249481894793136424992529331592085688370833142698128854637889429"
                + "298303132322777807872271423368");
        x.due(8, "digitAt", 1, 3, 119);
        x.due(-1, "digitAt", 1, 3, 120);
        x.due(2, "sign", 1, 3);
        x.due(0, "sign", 1, 2);
    }

    private static void signIs0Below1At2Above() {
        Points x = full();
        x.due(0, "sign", 2, 0);
        x.due(1, "sign", 0, 0);
        x.due(2, "sign", 1, 0);
        x.due(0, "sign", 2, 2);
        x.due(1, "sign", 0, 2);
        x.due(2, "sign", 5, 2);
        // The number 0 given with a lower part below 0, and one that comes out of a sum.
        x.due(1, "point", 7, 0, -5, 0, -7);
        x.due(1, "sign", 7, 0);
        x.due(1, "sign", 7, 2);
        x.due(1, "less", 4, 3, 7);
        x.due(1, "sign", 7, 0);
        x.due(1, "sign", 7, 2);
        x.due(1, "times", 0, -2, 7);
        x.due(2, "sign", 7, 0);
        x.due(0, "sign", 7, 2);
        x.due(1, "times", 7, -1, 7);
        x.due(1, "sign", 7, 2);
    }

    private static void theLowerPartsAreAbove0() {
        Points x = full();
        for (int slot = 0; slot < 7; slot++) {
            x.due(2, "sign", slot, 1);
            x.due(2, "sign", slot, 3);
        }
        x.due(1, "times", 6, -1, 7);
        x.due(2, "sign", 7, 1);
        x.due(2, "sign", 7, 3);
        x.due(1, "point", 7, 5, -9, -8, -27);
        x.due(2, "sign", 7, 1);
        x.due(2, "sign", 7, 3);
    }

    private static void test(String what, Runnable body) {
        sentence = what;
        sentences++;
        try {
            body.run();
        } catch (RuntimeException thrown) {
            report("threw " + thrown);
        }
    }

    private static void testTerms() {
        test("What it is: at most 512 calls", BoundariesTest::call512IsStillPromised);
        test("The curve: singular if 9 b2 b4 b6 - b2 b2 b8 - 8 b4 b4 b4 - 27 b6 b6 is 0",
                BoundariesTest::aCurveIsSingularWhenTheSumIsZero);
        test("The curve: is 0, not 0 after a wrap-around", BoundariesTest::aSumOfZeroAfterWrapAroundIsNotSingular);
        test("Points: each as often as it meets it: twice", BoundariesTest::aLineThatTouchesMeetsTwice);
        test("Points: each as often as it meets it: thrice", BoundariesTest::aLineThatTouchesMayMeetThrice);
        test("Points: a line straight up meets O, too", BoundariesTest::aLineStraightUpMeetsNone);
        test("Points: O changes nothing", BoundariesTest::noneChangesNothingInASum);
        test("Slots: slots that a call names may be the same one", BoundariesTest::slotsThatACallNamesMayBeTheSame);
        test("Slots: in lowest terms, the lower part above 0",
                BoundariesTest::fractionsAreInLowestTermsTheLowerPartAboveZero);
        test("Slots: TOO LONG: more than 120 digits, above in y", BoundariesTest::tooLongIsMoreThan120DigitsAboveInY);
        test("Slots: TOO LONG: more than 120 digits, below in y", BoundariesTest::tooLongIsMoreThan120DigitsBelowInY);
    }

    private static void testPromises1To4() {
        test("1: the curve is y y = x x x + 1", BoundariesTest::aNewObjectHasYYIsXXXPlus1);
        test("1: all slots hold O", BoundariesTest::aNewObjectHoldsNoneInAllSlots);
        test("2: another curve; all slots hold O: 0", BoundariesTest::afterACurveAllSlotsHoldNone);
        test("2: 5, and nothing is changed, when it is singular", BoundariesTest::aSingularCurveChangesNothing);
        test("2: each of the five may be -99999 .. 99999", BoundariesTest::eachNumberOfACurveMayBe99999);
        test("2: NONE likewise when one of the five is not -99999 .. 99999",
                BoundariesTest::aNumberOfACurvePast99999ChangesNothing);
        test("2: asked first", BoundariesTest::theNumbersOfACurveAreAskedFirst);
        test("3: a slot holds O", BoundariesTest::aSlotComesToHoldNone);
        test("3: false when there is none such", BoundariesTest::noneIsFalseWithoutSuchASlot);
        test("4: a slot holds the point: 1", BoundariesTest::aSlotComesToHoldAPoint);
        test("4: 0, changing nothing, when it is not on the curve", BoundariesTest::aPointOffTheCurveChangesNothing);
        test("4: not on the curve but after a wrap-around", BoundariesTest::aPointOnTheCurveOnlyAfterWrapAroundIsOff);
        test("4: in any terms: the least and largest longs", BoundariesTest::aPointMayHaveTheLeastAndLargestLongs);
        test("4: in any terms: many digits", BoundariesTest::aPointMayHaveNumbersOfManyDigits);
        test("4: NONE likewise when there is no such slot", BoundariesTest::aPointNeedsASlot);
        test("4: NONE likewise when b or d is 0", BoundariesTest::aPointNeedsLowerPartsThatAreNot0);
    }

    private static void testPromises5To7() {
        test("5: a slot holds P + Q: 1", BoundariesTest::aSlotComesToHoldASum);
        test("5: 0, changing nothing, when that is TOO LONG", BoundariesTest::aSumThatIsTooLongChangesNothing);
        test("5: that: the sum, not what is on the way", BoundariesTest::aSumMayFollowOneThatIsTooLong);
        test("5: NONE likewise when there are no such slots", BoundariesTest::aSumNeedsThreeSlots);
        test("5: NONE, not 0, without such slots", BoundariesTest::aSumWithoutSlotsIsNotAskedForItsLength);
        test("6: a slot holds P + ( - Q )", BoundariesTest::aSlotComesToHoldADifference);
        test("6: P + ( - P ) is O", BoundariesTest::aPointLessItselfIsNone);
        test("6: P + ( - ( - P ) ) touches", BoundariesTest::aPointLessItsOppositeIsTwiceThePoint);
        test("6: likewise 0 when that is TOO LONG", BoundariesTest::aDifferenceThatIsTooLongChangesNothing);
        test("6: that: the difference, not - Q", BoundariesTest::aDifferenceMayHaveAnOppositeThatIsTooLong);
        test("6: likewise NONE when there are no such slots", BoundariesTest::aDifferenceNeedsThreeSlots);
        test("6: NONE, not 0, without such slots", BoundariesTest::aDifferenceWithoutSlotsIsNotAskedForItsLength);
        test("7: a slot holds k P", BoundariesTest::aSlotComesToHoldAMultiple);
        test("7: 0 P is O", BoundariesTest::zeroTimesIsNone);
        test("7: for k below 0, - P so many times", BoundariesTest::oneTimesIsThePointAndMinusOneTheOpposite);
        test("7: likewise 0 when that is TOO LONG", BoundariesTest::aMultipleThatIsTooLongChangesNothing);
        test("7: that: k P, not what is on the way", BoundariesTest::aMultipleMayFollowOneThatIsTooLong);
        test("7: likewise NONE when there are no such slots", BoundariesTest::aMultipleNeedsTwoSlots);
        test("7: NONE, not 0, without such slots", BoundariesTest::aMultipleWithoutSlotsIsNotAskedForItsLength);
        test("7: k may be -1000000 .. 1000000", BoundariesTest::aFactorMayBe1000000);
        test("7: NONE, too, when k is not -1000000 .. 1000000", BoundariesTest::aFactorPast1000000ChangesNothing);
    }

    private static void testPromises8To10() {
        test("8: the least number above 0 with which it is O", BoundariesTest::theOrderIsTheLeastNumber);
        test("8: O is O with 1", BoundariesTest::theOrderOfNoneIs1);
        test("8: 0 if there is none", BoundariesTest::theOrderIs0IfThereIsNone);
        test("8: NONE when there is no such slot", BoundariesTest::anOrderNeedsASlot);
        test("9: whether a slot holds O", BoundariesTest::isNoneTellsWhetherASlotHoldsNone);
        test("9: false when there is none such", BoundariesTest::isNoneIsFalseWithoutSuchASlot);
        test("10: whether two slots hold the same point", BoundariesTest::sameTellsWhetherTwoSlotsHoldTheSame);
        test("10: the same point: 0 is not below 0", BoundariesTest::zeroIsTheSameHoweverItCame);
        test("10: the same point: O, too", BoundariesTest::noneIsTheSameAsNoneAlone);
        test("10: false when there are none such", BoundariesTest::sameIsFalseWithoutSuchSlots);
    }

    private static void testPromises11To13() {
        test("11: how many digits", BoundariesTest::digitsCountsEachPowerOfTen);
        test("11: 0 has one", BoundariesTest::zeroHasOneDigit);
        test("11: what = 0, 1, 2, 3", BoundariesTest::theFourNumbersAreToldApart);
        test("11: NONE when there is no such slot", () -> aNumberNeedsASlot("digits"));
        test("11: NONE when it holds O", () -> aNumberNeedsAPointThatIsNotNone("digits"));
        test("11: NONE for others than 0 .. 3", () -> aNumberIsOneOfFour("digits", 1, 1, 1, 1));
        test("12: the highest one being 0", BoundariesTest::digit0IsTheHighest);
        test("12: NONE, too, when there is none such: past the lowest", BoundariesTest::aDigitPastTheLowestIsNone);
        test("12: NONE, too, when there is none such: before the highest",
                BoundariesTest::aDigitBeforeTheHighestIsNone);
        test("12: NONE when there is no such slot", () -> aNumberNeedsASlot("digitAt"));
        test("12: NONE when it holds O", () -> aNumberNeedsAPointThatIsNotNone("digitAt"));
        test("12: NONE for others than 0 .. 3", () -> aNumberIsOneOfFour("digitAt", 1, 4, 5, 8));
        test("11 to 13: a number of 120 digits", BoundariesTest::aNumberMayHave120Digits);
        test("13: 0 when that number is below 0, 1 when it is 0, 2 above", BoundariesTest::signIs0Below1At2Above);
        test("13: the lower part above 0", BoundariesTest::theLowerPartsAreAbove0);
        test("13: NONE when there is no such slot", () -> aNumberNeedsASlot("sign"));
        test("13: NONE when it holds O", () -> aNumberNeedsAPointThatIsNotNone("sign"));
        test("13: NONE for others than 0 .. 3", () -> aNumberIsOneOfFour("sign", 2, 2, 0, 2));
    }

    public static void main(String[] args) {
        testTerms();
        testPromises1To4();
        testPromises5To7();
        testPromises8To10();
        testPromises11To13();
        System.out.println(sentences + " sentences, " + asked + " answers compared, " + wrong + " wrong");
        if (wrong != 0) {
            System.exit(1);
        }
    }
}
