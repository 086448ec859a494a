import java.lang.reflect.Constructor;
import java.lang.reflect.Method;
import java.math.BigInteger;
import java.util.Random;

/**
 * The whole numbers of any size inside the class, against the library's: the digits that lead a long division astray are
 * too seldom to be met by calls of the face. The class is private, so that it is reached by its name.
 */
public final class BigTest {
    private static final int BASE = 1000000000;
    private static final int[] EDGES = {0, 1, 2, BASE - 1, BASE - 2, BASE / 2, BASE / 2 - 1, BASE / 2 + 1};
    private static int wrong = 0;

    public static void main(String[] args) throws ReflectiveOperationException {
        Random random = new Random(17);
        for (int round = 0; round < 60000 && wrong < 10; round++) {
            one(random);
        }
        System.out.println(wrong == 0 ? "the numbers are right" : wrong + " wrong numbers");
        System.exit(wrong == 0 ? 0 : 1);
    }

    private static void one(Random random) throws ReflectiveOperationException {
        BigInteger a = some(random, random.nextInt(9));
        BigInteger b = some(random, random.nextInt(6));
        if (random.nextInt(3) == 0) {
            a = b.multiply(some(random, random.nextInt(4))).add(BigInteger.valueOf(random.nextInt(3) - 1));
        }
        Made x = new Made(a);
        Made y = new Made(b);
        due("sum", a, b, a.add(b), new Made().set("sumOf", x, y));
        due("difference", a, b, a.subtract(b), new Made().set("differenceOf", x, y));
        due("product", a, b, a.multiply(b), new Made().set("productOf", x, y));
        due("order", a, b, BigInteger.valueOf(a.compareTo(b)), BigInteger.valueOf(x.order(y)));
        due("sum into itself", a, b, a.add(b), new Made(a).setOwn("sumOf", y));
        due("difference into itself", a, b, a.subtract(b), new Made(a).setOwn("differenceOf", y));
        if (b.signum() != 0) {
            due("floor", a, b, floor(a, b), new Made().floor(x, y));
        }
    }

    private static BigInteger floor(BigInteger a, BigInteger b) {
        BigInteger[] parts = a.divideAndRemainder(b);
        return parts[1].signum() * b.signum() < 0 ? parts[0].subtract(BigInteger.ONE) : parts[0];
    }

    private static BigInteger some(Random random, int digits) {
        BigInteger made = BigInteger.ZERO;
        boolean isEven = random.nextBoolean();
        for (int digit = 0; digit < digits; digit++) {
            boolean isEdge = isEven || random.nextInt(3) > 0;
            int next = isEdge ? EDGES[random.nextInt(EDGES.length)] : random.nextInt(BASE);
            made = made.multiply(BigInteger.valueOf(BASE)).add(BigInteger.valueOf(next));
        }
        return random.nextInt(3) == 0 ? made.negate() : made;
    }

    private static void due(String what, BigInteger a, BigInteger b, BigInteger want, BigInteger got) {
        if (!want.equals(got)) {
            wrong++;
            System.out.println(what + " of " + a + " and " + b + " is " + got + ", due is " + want);
        }
    }

    /** A number of the class under test. */
    private static final class Made {
        private static Class<?> type;
        private final Object number;

        Made() throws ReflectiveOperationException {
            if (type == null) {
                type = Class.forName("Stepsdown$Big");
            }
            Constructor<?> maker = type.getDeclaredConstructor(int.class);
            maker.setAccessible(true);
            number = maker.newInstance(3);
        }

        Made(BigInteger value) throws ReflectiveOperationException {
            this();
            Made base = new Made();
            Made digit = new Made();
            Made product = new Made();
            base.put(BASE);
            String text = value.abs().toString();
            int first = text.length() % 9;
            for (int at = first - 9; at < text.length(); at += 9) {
                product.set("productOf", this, base);
                digit.put(at < 0 && first == 0 ? 0 : Integer.parseInt(text.substring(Math.max(0, at), at + 9)));
                set("sumOf", product, digit);
            }
            if (value.signum() < 0) {
                method("flip").invoke(number);
            }
        }

        private static Method method(String name, Class<?>... types) throws ReflectiveOperationException {
            Method method = type.getDeclaredMethod(name, types);
            method.setAccessible(true);
            return method;
        }

        private void put(long value) throws ReflectiveOperationException {
            method("setLong", long.class).invoke(number, value);
        }

        BigInteger set(String name, Made a, Made b) throws ReflectiveOperationException {
            method(name, type, type).invoke(number, a.number, b.number);
            return told();
        }

        BigInteger setOwn(String name, Made b) throws ReflectiveOperationException {
            return set(name, this, b);
        }

        BigInteger floor(Made a, Made b) throws ReflectiveOperationException {
            method("floorOf", type, type, type, type).invoke(number, a.number, b.number, new Made().number,
                    new Made().number);
            return told();
        }

        int order(Made other) throws ReflectiveOperationException {
            return (Integer) method("order", type).invoke(number, other.number);
        }

        private BigInteger told() throws ReflectiveOperationException {
            StringBuilder text = new StringBuilder();
            method("writeTo", StringBuilder.class).invoke(number, text);
            return new BigInteger(text.toString());
        }
    }
}
