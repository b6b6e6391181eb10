import java.lang.reflect.Constructor;
import java.lang.reflect.Field;
import java.lang.reflect.Method;
import java.math.BigInteger;

/**
 * The reckoning inside, against BigInteger. Reached by reflection, since some
 * turns (a quotient's limb guessed one too high) are too rare for points to
 * show them.
 */
public final class NumbersTest {
    private static final int[] LIMBS = {0, 1, 2, 9, 10, 499999999, 500000000, 500000001, 999999998, 999999999};
    private static final BigInteger BASE = BigInteger.valueOf(1000000000);
    private static long seed = 7;
    private static int wrong = 0;
    private static int asked = 0;
    private static Class<?> numClass;
    private static Constructor<?> newNum;
    private static Field limbs;
    private static Field length;
    private static Field below;
    private static Object reckoner;
    private static Object divisors;

    private static int next(int bound) {
        seed = seed * 6364136223846793005L + 1442695040888963407L;
        return (int) Long.remainderUnsigned(seed >>> 20, bound);
    }

    private static <T extends java.lang.reflect.AccessibleObject> T open(T member) {
        member.setAccessible(true);
        return member;
    }

    private static void find() throws Exception {
        numClass = Class.forName("ChordPoints$Num");
        newNum = open(numClass.getDeclaredConstructor(int.class));
        limbs = open(numClass.getDeclaredField("limbs"));
        length = open(numClass.getDeclaredField("length"));
        below = open(numClass.getDeclaredField("below"));
        Class<?> reckonerClass = Class.forName("ChordPoints$Reckoner");
        reckoner = open(reckonerClass.getDeclaredConstructor()).newInstance();
        divisors = open(Class.forName("ChordPoints$Divisors").getDeclaredConstructor(reckonerClass))
                .newInstance(reckoner);
    }

    private static Object num(BigInteger value) throws Exception {
        Object made = newNum.newInstance(112);
        BigInteger rest = value.abs();
        int count = 0;
        while (rest.signum() > 0) {
            ((int[]) limbs.get(made))[count++] = rest.mod(BASE).intValue();
            rest = rest.divide(BASE);
        }
        length.setInt(made, count);
        below.setBoolean(made, value.signum() < 0);
        return made;
    }

    private static BigInteger value(Object num) throws Exception {
        BigInteger made = BigInteger.ZERO;
        for (int i = length.getInt(num) - 1; i >= 0; i--) {
            made = made.multiply(BASE).add(BigInteger.valueOf(((int[]) limbs.get(num))[i]));
        }
        return below.getBoolean(num) ? made.negate() : made;
    }

    private static void call(Object on, String name, Object... args) throws Exception {
        Class<?>[] types = new Class<?>[args.length];
        java.util.Arrays.fill(types, numClass);
        open(on.getClass().getDeclaredMethod(name, types)).invoke(on, args);
    }

    private static void due(String what, BigInteger got, BigInteger want) {
        asked++;
        if (!got.equals(want)) {
            wrong++;
            if (wrong < 20) {
                System.out.println(what + " answered " + got + ", due is " + want);
            }
        }
    }

    private static BigInteger choose(int most) {
        BigInteger made = BigInteger.ZERO;
        int count = next(most + 1);
        boolean edges = next(2) == 0;
        for (int i = 0; i < count; i++) {
            int limb = edges ? LIMBS[next(LIMBS.length)] : next(1000000000);
            made = made.multiply(BASE).add(BigInteger.valueOf(limb));
        }
        return next(2) == 0 ? made : made.negate();
    }

    private static void checkPair(BigInteger x, BigInteger y) throws Exception {
        Object out = num(BigInteger.TEN);
        call(reckoner, "add", num(x), num(y), out);
        due(x + " + " + y, value(out), x.add(y));
        call(reckoner, "subtract", num(x), num(y), out);
        due(x + " - " + y, value(out), x.subtract(y));
        call(reckoner, "multiply", num(x), num(y), out);
        due(x + " * " + y, value(out), x.multiply(y));
        call(divisors, "common", num(x), num(y), out);
        due("common " + x + " , " + y, value(out), x.gcd(y));
        if (y.signum() != 0) {
            checkDivision(x, y);
            checkDivision(x.multiply(y), y);
            checkDivision(x.multiply(y).subtract(BigInteger.ONE), y);
        }
    }

    private static void checkDivision(BigInteger x, BigInteger y) throws Exception {
        Object rest = num(BigInteger.TEN);
        Object top = num(x);
        call(reckoner, "divide", top, num(y), top, rest);
        due(x + " / " + y, value(top), x.divide(y));
        due(x + " % " + y, value(rest), x.remainder(y));
    }

    private static void checkRoot(BigInteger x) throws Exception {
        Object out = num(x);
        call(divisors, "root", out, out);
        due("root " + x, value(out), x.sqrt());
    }

    private static void checkCommon(BigInteger x, BigInteger y, BigInteger shared) throws Exception {
        Object out = num(x.multiply(shared));
        call(divisors, "common", out, num(y.multiply(shared)), out);
        due("common", value(out), x.multiply(shared).gcd(y.multiply(shared)));
    }

    private static void checkLong(long value) throws Exception {
        Object out = num(BigInteger.TEN);
        open(numClass.getDeclaredMethod("become", long.class)).invoke(out, value);
        due("long", value(out), BigInteger.valueOf(value));
        Method count = open(numClass.getDeclaredMethod("digitCount"));
        String text = BigInteger.valueOf(value).abs().toString();
        due("digits of " + value, BigInteger.valueOf((int) count.invoke(out)), BigInteger.valueOf(text.length()));
    }

    public static void main(String[] args) throws Exception {
        find();
        for (int i = 0; i < 30000; i++) {
            checkPair(choose(1 + i % 12), choose(1 + i % 7));
        }
        for (int i = 0; i < 3000; i++) {
            BigInteger x = choose(30).abs();
            checkRoot(x);
            checkRoot(x.multiply(x));
            checkRoot(x.multiply(x).subtract(BigInteger.ONE).max(BigInteger.ZERO));
            checkCommon(choose(30), choose(40), choose(20));
            checkPair(choose(50), choose(50));
        }
        BigInteger low = BigInteger.ONE;
        BigInteger high = BigInteger.ONE;
        for (int i = 0; i < 2000; i++) {
            // Neighbours of Fibonacci's take the most steps.
            Object out = num(high);
            call(divisors, "common", out, num(low), out);
            due("common of neighbours", value(out), BigInteger.ONE);
            BigInteger sum = low.add(high);
            low = high;
            high = sum;
        }
        for (long power = 1, i = 0; i < 19; i++, power *= 10) {
            checkLong(power);
            checkLong(-power);
            checkLong(power - 1);
            checkLong(1 - power);
        }
        checkLong(Long.MIN_VALUE);
        checkLong(Long.MAX_VALUE);
        System.out.println(asked + " answers compared, " + wrong + " wrong");
        if (wrong != 0) {
            System.exit(1);
        }
    }
}
