import java.lang.reflect.Constructor;
import java.lang.reflect.Field;
import java.lang.reflect.Method;
import java.math.BigInteger;
import java.util.Random;

/**
 * The whole numbers of any size inside the class, against the library's: the digits that lead a long division astray are
 * too seldom to be met by calls of the face. The class is private, so that it is reached by its name.
 */
public final class BigTest {
    private static final int BASE = 1000000000;
    private static final int[] EDGES = {0, 1, 2, BASE - 1, BASE - 2, BASE / 2, BASE / 2 - 1, BASE / 2 + 1};
    private static final int[] FACTORS = {0, 1, -1, 9, -9, 162, -324, BASE - 1, 1 - BASE};
    private static final int[] DIVISORS = {1, 2, 7, 10, 324, 26244, 65536, 1000003, BASE - 1, BASE};
    private static int wrong = 0;

    public static void main(String[] args) throws ReflectiveOperationException {
        Random random = new Random(17);
        for (int round = 0; round < 60000 && wrong < 10; round++) {
            one(random);
            small(random);
        }
        for (int round = 0; round < 6000 && wrong < 10; round++) {
            root(random);
        }
        System.out.println(wrong == 0 ? "the numbers are right" : wrong + " wrong numbers");
        System.exit(wrong == 0 ? 0 : 1);
    }

    private static void one(Random random) throws ReflectiveOperationException {
        BigInteger a = some(random, random.nextInt(9));
        BigInteger b = some(random, random.nextInt(6));
        if (random.nextInt(3) == 0) {
            a = b.multiply(some(random, random.nextInt(4))).add(BigInteger.valueOf(random.nextInt(3) - 1));
        }
        Made x = new Made(a);
        Made y = new Made(b);
        due("sum", a, b, a.add(b), new Made().set("sumOf", x, y));
        due("difference", a, b, a.subtract(b), new Made().set("differenceOf", x, y));
        due("product", a, b, a.multiply(b), new Made().set("productOf", x, y));
        due("order", a, b, BigInteger.valueOf(a.compareTo(b)), BigInteger.valueOf(x.order(y)));
        due("sum into itself", a, b, a.add(b), new Made(a).setOwn("sumOf", y));
        due("difference into itself", a, b, a.subtract(b), new Made(a).setOwn("differenceOf", y));
        if (b.signum() != 0) {
            due("floor", a, b, floor(a, b), new Made().floor(x, y));
        }
    }

    /** A great number and a small one; what is below 0 is divided by its size alone. */
    private static void small(Random random) throws ReflectiveOperationException {
        BigInteger a = some(random, random.nextInt(6));
        BigInteger factor = BigInteger.valueOf(FACTORS[random.nextInt(FACTORS.length)]);
        BigInteger divisor = BigInteger.valueOf(DIVISORS[random.nextInt(DIVISORS.length)]);
        Made x = new Made(a);
        due("times", a, factor, a.multiply(factor), new Made().times(x, factor.intValue()));
        due("times of itself", a, factor, a.multiply(factor), new Made(a).times(null, factor.intValue()));
        due("rest", a, divisor, a.mod(divisor), BigInteger.valueOf(x.rest(divisor.intValue())));
        due("part", a, divisor, a.divide(divisor), new Made(a).shrink(divisor.intValue()));
        due("decimals", a, a, BigInteger.valueOf(a.signum() == 0 ? 0 : a.abs().toString().length()),
                BigInteger.valueOf(x.decimals()));
        due("copy", a, a, a, x.exact());
    }

    /** FLOOR of a root next to a square, and far from one. */
    private static void root(Random random) throws ReflectiveOperationException {
        BigInteger whole = some(random, 1 + random.nextInt(7)).abs();
        BigInteger square = whole.multiply(whole);
        BigInteger most = square.add(whole).add(whole);
        BigInteger middle = square.add(BigInteger.valueOf(random.nextInt(BASE)));
        BigInteger far = some(random, 1 + random.nextInt(14)).abs();
        for (BigInteger n : new BigInteger[] {square.subtract(BigInteger.ONE), square, most, middle, far}) {
            if (n.signum() > 0) {
                due("root", n, n, n.sqrt(), Made.rootOf(n));
            }
        }
    }

    private static BigInteger floor(BigInteger a, BigInteger b) {
        BigInteger[] parts = a.divideAndRemainder(b);
        return parts[1].signum() * b.signum() < 0 ? parts[0].subtract(BigInteger.ONE) : parts[0];
    }

    private static BigInteger some(Random random, int digits) {
        BigInteger made = BigInteger.ZERO;
        boolean isEven = random.nextBoolean();
        for (int digit = 0; digit < digits; digit++) {
            boolean isEdge = isEven || random.nextInt(3) > 0;
            int next = isEdge ? EDGES[random.nextInt(EDGES.length)] : random.nextInt(BASE);
            made = made.multiply(BigInteger.valueOf(BASE)).add(BigInteger.valueOf(next));
        }
        return random.nextInt(3) == 0 ? made.negate() : made;
    }

    private static void due(String what, BigInteger a, BigInteger b, BigInteger want, BigInteger got) {
        if (!want.equals(got)) {
            wrong++;
            System.out.println(what + " of " + a + " and " + b + " is " + got + ", due is " + want);
        }
    }

    /** A number of the class under test. */
    private static final class Made {
        private static Class<?> type;
        private final Object number;

        Made() throws ReflectiveOperationException {
            if (type == null) {
                type = Class.forName("Stepsdown$Big");
            }
            Constructor<?> maker = type.getDeclaredConstructor(int.class);
            maker.setAccessible(true);
            number = maker.newInstance(3);
        }

        Made(BigInteger value) throws ReflectiveOperationException {
            this();
            setTo(value);
        }

        /** A number that stands in an object of the class under test. */
        Made(Object owner, String name) throws ReflectiveOperationException {
            Field field = owner.getClass().getDeclaredField(name);
            field.setAccessible(true);
            number = field.get(owner);
        }

        private void setTo(BigInteger value) throws ReflectiveOperationException {
            put(0);
            Made base = new Made();
            Made digit = new Made();
            Made product = new Made();
            base.put(BASE);
            String text = value.abs().toString();
            int first = text.length() % 9;
            for (int at = first - 9; at < text.length(); at += 9) {
                product.set("productOf", this, base);
                digit.put(at < 0 && first == 0 ? 0 : Integer.parseInt(text.substring(Math.max(0, at), at + 9)));
                set("sumOf", product, digit);
            }
            if (value.signum() < 0) {
                method("flip").invoke(number);
            }
        }

        private Made(Object number) {
            this.number = number;
        }

        private static Method method(String name, Class<?>... types) throws ReflectiveOperationException {
            Method method = type.getDeclaredMethod(name, types);
            method.setAccessible(true);
            return method;
        }

        private void put(long value) throws ReflectiveOperationException {
            method("setLong", long.class).invoke(number, value);
        }

        BigInteger set(String name, Made a, Made b) throws ReflectiveOperationException {
            method(name, type, type).invoke(number, a.number, b.number);
            return told();
        }

        BigInteger setOwn(String name, Made b) throws ReflectiveOperationException {
            return set(name, this, b);
        }

        BigInteger floor(Made a, Made b) throws ReflectiveOperationException {
            method("floorOf", type, type, type, type).invoke(number, a.number, b.number, new Made().number,
                    new Made().number);
            return told();
        }

        int order(Made other) throws ReflectiveOperationException {
            return (Integer) method("order", type).invoke(number, other.number);
        }

        /** Sets it to a times the factor; without a, to itself times the factor. */
        BigInteger times(Made a, int factor) throws ReflectiveOperationException {
            method("timesOf", type, int.class).invoke(number, a == null ? number : a.number, factor);
            return told();
        }

        BigInteger shrink(int divisor) throws ReflectiveOperationException {
            method("shrink", int.class).invoke(number, divisor);
            return told();
        }

        int rest(int by) throws ReflectiveOperationException {
            return (Integer) method("rest", int.class).invoke(number, by);
        }

        int decimals() throws ReflectiveOperationException {
            return (Integer) method("decimals").invoke(number);
        }

        BigInteger exact() throws ReflectiveOperationException {
            return new Made(method("exact").invoke(number)).told();
        }

        /** What a descent takes for FLOOR of the root of n: it is told n as p * p + q * r. */
        static BigInteger rootOf(BigInteger n) throws ReflectiveOperationException {
            Class<?> descents = Class.forName("Stepsdown$Descent");
            Constructor<?> maker = descents.getDeclaredConstructor();
            maker.setAccessible(true);
            Object descent = maker.newInstance();
            new Made(descent, "p").put(0);
            new Made(descent, "q").put(1);
            new Made(descent, "r").setTo(n);
            Method find = descents.getDeclaredMethod("findRoot");
            find.setAccessible(true);
            find.invoke(descent);
            return new Made(descent, "root").told();
        }

        private BigInteger told() throws ReflectiveOperationException {
            StringBuilder text = new StringBuilder();
            method("writeTo", StringBuilder.class).invoke(number, text);
            return new BigInteger(text.toString());
        }
    }
}
