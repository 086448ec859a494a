import java.math.BigInteger;
import java.util.ArrayList;
import java.util.HashMap;
import java.util.List;
import java.util.Map;
import java.util.Random;

/**
 * Long runs of calls, made by a seeded generator, on a Stepsdown and on a model that does what the document's words say
 * in the slowest way: numbers are told exactly as (a + b * root of d) / c, and the best of many is found by trying all.
 */
public final class OracleTest {
    private static int wrong = 0;
    private static int calls = 0;

    public static void main(String[] args) {
        int runs = args.length > 0 ? Integer.parseInt(args[0]) : 54;
        int seed = args.length > 1 ? Integer.parseInt(args[1]) : 1;
        for (int run = 0; run < runs && wrong < 20; run++) {
            oneRun(new Random(seed * 1000003L + run), run % 9);
        }
        System.out.println(calls + " calls, " + wrong + " wrong answers");
        System.exit(wrong == 0 ? 0 : 1);
    }

    /** One run of 512 calls on a fresh object. */
    private static void oneRun(Random random, int style) {
        Stepsdown real = new Stepsdown();
        Model model = new Model();
        List<String> told = new ArrayList<>();
        for (int call = 0; call < 512; call++) {
            String name = Calls.pick(random, style, model);
            int[] given = Calls.arguments(random, style, name, model);
            String due = model.answer(name, given);
            String got = Real.answer(real, name, given);
            String text = name + java.util.Arrays.toString(given);
            told.add(text + " = " + due);
            calls++;
            if (!due.equals(got)) {
                wrong++;
                System.out.println("call " + call + " of style " + style + ": " + text + " answered " + got + ", due is "
                        + due);
                for (String line : told.subList(Math.max(0, told.size() - 12), told.size())) {
                    System.out.println("    " + line);
                }
                return;
            }
        }
    }

    /** Calls of the real object, told as texts: an exception as "throws." and its name. */
    private static final class Real {
        static String answer(Stepsdown x, String name, int[] g) {
            try {
                return call(x, name, g);
            } catch (RuntimeException e) {
                return "throws." + e.getClass().getSimpleName();
            }
        }

        private static String call(Stepsdown x, String name, int[] g) {
            switch (name) {
                case "fraction": return "" + x.fraction(g[0], g[1]);
                case "root": return "" + x.root(g[0], g[1], g[2]);
                case "push": return "" + x.push(g[0]);
                case "pop": return "" + x.pop();
                case "finish": return "" + x.finish();
                case "map": return "" + x.map(g[0], g[1], g[2], g[3], g[4]);
                case "remove": return "" + x.remove(g[0]);
                case "undo": return "" + x.undo();
                case "knock": return "" + x.knock();
                case "ofRow": return "" + x.ofRow(g[0], g[1]);
                case "term": return "" + x.term(g[0], g[1], g[2]);
                case "terms": return x.terms(g[0]);
                case "draft": return "" + x.draft(g[0]);
                case "sameTail": return "" + x.sameTail(g[0], g[1]);
                case "machine": return "" + x.machine(g[0], g[1], g[2], g[3], g[4], g[5]);
                case "convergent": return "" + x.convergent(g[0], g[1], g[2] == 1, g[3]);
                case "convergentText": return x.convergentText(g[0], g[1]);
                case "cross": return "" + x.cross(g[0], g[1]);
                case "side": return "" + x.side(g[0], g[1]);
                case "best": return "" + x.best(g[0], g[1], g[2], g[3] == 1, g[4]);
                case "bestText": return x.bestText(g[0], g[1], g[2]);
                case "isBest": return "" + x.isBest(g[0], g[1], g[2], g[3]);
                case "bests": return "" + x.bests(g[0], g[1], g[2]);
                default: return later(x, name, g);
            }
        }

        private static String later(Stepsdown x, String name, int[] g) {
            switch (name) {
                case "nearer": return "" + x.nearer(g[0], g[1], g[2], g[3], g[4]);
                case "against": return "" + x.against(g[0], g[1], g[2]);
                case "compare": return "" + x.compare(g[0], g[1]);
                case "gears": return "" + x.gears(g[0], g[1], g[2], g[3] == 1);
                case "post": return "" + x.post(g[0], g[1], g[2]);
                case "step": return "" + x.step(g[0], g[1]);
                case "longSteps": return "" + x.longSteps(g[0], g[1], g[2]);
                case "fence": return x.fence(g[0], g[1], g[2]);
                case "calendar": return "" + x.calendar(g[0], g[1]);
                case "ofCalendar": return "" + x.ofCalendar(g[0]);
                case "isLeap": return "" + x.isLeap(g[0]);
                case "days": return "" + x.days(g[0]);
                case "yearOf": return "" + x.yearOf(g[0]);
                case "drift": return "" + x.drift(g[0]);
                case "squareRoot": return "" + x.squareRoot(g[0]);
                case "answer": return "" + x.answer(g[0], g[1], g[2], g[3] == 1, g[4]);
                case "answerText": return x.answerText(g[0], g[1], g[2]);
                case "answers": return "" + x.answers(g[0], g[1], g[2]);
                case "rootPeriod": return "" + x.rootPeriod(g[0]);
                case "house": return "" + x.house(g[0]);
                case "isSound": return "" + x.isSound();
                case "digest": return "" + x.digest();
                default: throw new UnsupportedOperationException(name);
            }
        }
    }

    /** Which calls are made, and with what. */
    private static final class Calls {
        private static final String[] MAKING = {"fraction", "root", "root", "push", "push", "push", "pop", "finish", "map",
            "map", "map", "map", "remove", "undo", "calendar"};
        private static final String[] ASKING = {"knock", "ofRow", "ofRow", "ofRow", "term", "terms", "draft", "sameTail",
            "machine", "convergent", "convergentText", "cross", "side", "best", "best", "bestText", "bestText", "isBest",
            "isBest", "bests", "nearer", "nearer", "against", "compare", "compare", "gears", "gears", "post", "step",
            "longSteps", "fence", "ofCalendar", "isLeap", "days", "yearOf", "drift", "drift", "squareRoot", "answer",
            "answerText", "answers", "rootPeriod", "house", "isSound", "digest"};
        private static final int[] EDGES = {Integer.MIN_VALUE, Integer.MAX_VALUE, -1, 0, 1, 2, 3, 4, 5, 6, 7, 8, 9, 10, -9,
            -10, 40, 41, 60, 61, 99, -99, 100, -100, 199, 200, 999, 1000, 9998, 9999, 10000, 9900, 9901, 1000003, 1000004,
            99999, 100000, -99999, 999999, 1000000, -999999, -1000000, 20, 21, 24, 25, 120, 121};

        private static final int[] GOLDEN = {1, 2, 2, 2, 2, 3, 3, 5, 7, 11, 23, 31, 41, 61, 47};

        static String pick(Random random, int style, Model model) {
            int making = style >= 6 ? 85 : style == 1 ? 70 : style == 5 ? 15 : 35;
            if (style < 8 && model.rows.isEmpty() && random.nextInt(3) > 0) {
                return random.nextBoolean() ? "root" : "fraction";
            }
            if (random.nextInt(100) >= making) {
                return ASKING[random.nextInt(ASKING.length)];
            }
            if (style == 2) {
                return random.nextInt(3) > 0 ? "map" : "remove";
            }
            if (style == 8 && model.rows.isEmpty()) {
                return "root";
            }
            if (style >= 6) {
                int rows = model.rows.size();
                return rows >= 6 ? "remove" : random.nextInt(60) == 0 ? "undo" : "map";
            }
            return MAKING[random.nextInt(MAKING.length)];
        }

        static int[] arguments(Random random, int style, String name, Model model) {
            int[] given = usual(random, style, name, model);
            for (int place = 0; place < given.length; place++) {
                boolean isFlag = isFlag(name, place);
                if (!isFlag && random.nextInt(style == 3 ? 12 : 60) == 0) {
                    given[place] = EDGES[random.nextInt(EDGES.length)];
                }
            }
            return given;
        }

        private static boolean isFlag(String name, int place) {
            return name.equals("convergent") && place == 2 || name.equals("best") && place == 3
                    || name.equals("gears") && place == 3 || name.equals("answer") && place == 3;
        }

        private static int within(Random random, int least, int most) {
            return least + random.nextInt(most - least + 1);
        }

        private static int by(Random random) {
            int[] some = {1000003, 10, 7, 1, 1000003, 1000000, 2};
            return random.nextBoolean() ? some[random.nextInt(some.length)] : within(random, 1, 1000003);
        }

        private static int small(Random random, int most) {
            return random.nextInt(3) == 0 ? within(random, 1, most) : within(random, 1, Math.min(most, 60));
        }

        private static int free(Random random) {
            int root = 0;
            while (Math.round(Math.sqrt(root)) * Math.round(Math.sqrt(root)) == root) {
                root = within(random, 2, 199);
            }
            return root;
        }

        private static int row(Random random, Model model) {
            int count = model.rows.size();
            return random.nextInt(50) == 0 ? count : random.nextInt(Math.max(1, count));
        }

        private static int[] mapped(Random random, int style, int row, Model model) {
            int[] given = {row, within(random, -9, 9), within(random, -9, 9), within(random, -9, 9), within(random, -9, 9), 0};
            if (style >= 6) {
                return towering(random, style, Math.max(0, model.rows.size() - 1));
            }
            if (row < model.rows.size() && random.nextInt(4) == 0) {
                Num x = model.rows.get(row).number;
                if (!x.isRoot() && x.a.bitLength() < 4 && x.c.bitLength() < 4) {
                    given[3] = x.c.intValue();
                    given[4] = -x.a.intValue();
                }
            }
            if (style == 2 || style == 4) {
                int[][] gentle = {{1, 9, 0, 1}, {0, 1, 1, 0}, {1, -7, 0, 1}, {9, 8, 1, 1}, {2, 1, 1, 1}, {0, 1, 1, 9},
                    {9, 0, 0, 1}, {1, 0, 0, 9}, {-1, 0, 0, 1}, {5, 0, 0, 1}, {8, 9, 7, 8}, {9, 8, 8, 7}};
                int[] one = gentle[random.nextInt(gentle.length)];
                System.arraycopy(one, 0, given, 1, 4);
            }
            return given;
        }

        /** Makes the root's d so many times as great, squared, or as small; these leave the rows of the golden one short. */
        private static int[] turning(Random random, int turn, int last) {
            for (int guess = 0; guess < 1000000; guess++) {
                int a = within(random, -9, 9);
                int b = within(random, -9, 9);
                int c = random.nextInt(3) == 0 ? 0 : within(random, -9, 9);
                int d = within(random, -9, 9);
                if (Math.abs(a * d - b * c) == turn) {
                    return new int[] {last, a, b, c, d, random.nextInt(21)};
                }
            }
            throw new IllegalStateException("no such map: " + turn);
        }

        /** Maps that make the numbers great and keep their rows short. */
        private static int[] towering(Random random, int style, int last) {
            if (style == 8) {
                return turning(random, GOLDEN[random.nextInt(GOLDEN.length)], last);
            }
            int[][] some = {{9, 0, 0, 1}, {1, 9, 0, 1}, {9, 0, 0, 1}, {9, 9, 0, 1}, {0, 1, 1, 0}, {-1, 0, 0, 1}, {0, 1, 1, 9}};
            int pick = style == 6 ? random.nextInt(random.nextInt(30) == 0 ? 7 : 4) : random.nextInt(20) == 0 ? 4 : 1;
            int[] one = some[random.nextInt(40) == 0 ? random.nextInt(7) : pick];
            return new int[] {last, one[0], one[1], one[2], one[3], 0};
        }

        private static int[] near(Random random, Model model, int row, int most) {
            if (row < 0 || row >= model.rows.size() || random.nextInt(4) == 0) {
                return random.nextBoolean() ? new int[] {within(random, -9999, 9999), random.nextInt(200)}
                        : new int[] {within(random, -999999, 999999), random.nextInt(10000)};
            }
            int b = small(random, most);
            Num x = model.rows.get(row).number;
            BigInteger a = x.times(b).floor().add(BigInteger.valueOf(within(random, 0, 1)));
            if (a.bitLength() > 19) {
                return new int[] {within(random, -9999, 9999), b};
            }
            return new int[] {a.intValue(), b};
        }

        /** A fraction about as far from x as the one given, on the other side. */
        private static int[] mirrored(Random random, Model model, int row, int[] one) {
            int d = small(random, 9999);
            if (row < 0 || row >= model.rows.size() || one[1] <= 0) {
                return new int[] {1, d};
            }
            Num x = model.rows.get(row).number;
            BigInteger c = x.times(2).minus(Num.of(one[0], one[1], x.d)).times(d).floor();
            BigInteger more = c.add(BigInteger.valueOf(within(random, 0, 1)));
            return new int[] {more.bitLength() > 19 ? 7 : more.intValue(), d};
        }

        private static int[] usual(Random random, int style, String name, Model model) {
            int row = row(random, model);
            int[] near = near(random, model, row, 9999);
            switch (name) {
                case "fraction":
                    return random.nextBoolean() ? new int[] {within(random, -99999, 99999), within(random, -9999, 9999)}
                            : new int[] {within(random, -30, 400), within(random, -12, 12)};
                case "root":
                    return style == 8 ? new int[] {1, 5, 2} : random.nextBoolean() ? new int[] {within(random, -99, 99), free(random), within(random, -6, 6)}
                            : new int[] {within(random, -2, 9), free(random), 1};
                case "push":
                    return new int[] {random.nextInt(3) == 0 ? within(random, -99, 99) : within(random, 1, 4)};
                case "map": {
                    int[] given = mapped(random, style, row, model);
                    return new int[] {given[0], given[1], given[2], given[3], given[4]};
                }
                case "machine": {
                    int[] given = mapped(random, style, row, model);
                    given[5] = within(random, 0, 20);
                    return given;
                }
                case "remove": return new int[] {style >= 6 ? 0 : row};
                case "terms": return new int[] {row};
                case "ofRow": return new int[] {row, within(random, 0, 5)};
                case "term": return new int[] {row, random.nextInt(3) == 0 ? within(random, 0, 999) : within(random, 0, 9),
                    by(random)};
                case "draft": return new int[] {within(random, -1, model.draft.size())};
                case "sameTail":
                case "compare": return new int[] {row, row(random, model)};
                case "convergent": return new int[] {row, short60(random), random.nextInt(2), by(random)};
                case "convergentText":
                case "cross":
                case "side": return new int[] {row, short60(random)};
                case "best": return new int[] {row, small(random, 9999), random.nextInt(2), random.nextInt(2), by(random)};
                case "bestText": return new int[] {row, small(random, 9999), random.nextInt(2)};
                case "isBest": {
                    int kind = random.nextInt(2);
                    int[] best = row < model.rows.size() ? model.bestSmall(row, near[1], kind) : near;
                    int[] told = random.nextInt(4) == 0 ? near : best;
                    return new int[] {row, told[0], told[1], kind};
                }
                case "bests": return new int[] {row, within(random, 1, 60), random.nextInt(2)};
                case "nearer": {
                    int[] other = random.nextBoolean() ? near(random, model, row, 200)
                            : mirrored(random, model, row, near);
                    return new int[] {row, near[0], near[1], other[0], other[1]};
                }
                case "against": return new int[] {row, near[0], near[1]};
                default: return more(random, name, model, row);
            }
        }

        private static int short60(Random random) {
            return random.nextInt(4) == 0 ? within(random, 0, 60) : within(random, 0, 9);
        }

        private static int[] more(Random random, String name, Model model, int row) {
            int d = free(random);
            int reach = (int) Math.sqrt(d);
            int n = random.nextInt(3) == 0 ? within(random, -reach, reach) : random.nextBoolean() ? 1 : -1;
            int from = small(random, 9950) - 1;
            switch (name) {
                case "gears": {
                    int least = within(random, 1, 40);
                    return new int[] {row, least, within(random, least, 40), random.nextInt(2)};
                }
                case "post": return new int[] {row, small(random, 9999), by(random)};
                case "step": return new int[] {row, small(random, 9998)};
                case "longSteps": return new int[] {row, from, within(random, from, Math.min(9998, from + 300))};
                case "fence": return new int[] {row, Math.min(from, 9900), within(random, 1, 40)};
                case "calendar": return new int[] {row, small(random, 9999)};
                case "ofCalendar": return new int[] {within(random, 0, 2)};
                case "isLeap":
                case "days":
                case "drift": return new int[] {small(random, 9999)};
                case "yearOf": return new int[] {random.nextInt(3) == 0 ? random.nextInt(4000000) : model.someDay(random)};
                case "squareRoot": return new int[] {random.nextInt(4) == 0 ? random.nextInt() : square(random)};
                case "answer": return new int[] {d, n, within(random, 0, 8), random.nextInt(2), by(random)};
                case "answerText": return new int[] {d, n, within(random, 0, 8)};
                case "answers": return new int[] {d, n, within(random, 1, 20)};
                case "rootPeriod": return new int[] {d};
                case "house": return new int[] {within(random, 0, 4)};
                default: return new int[0];
            }
        }

        private static int square(Random random) {
            int root = random.nextInt(46341);
            return root * root + within(random, -1, 1);
        }
    }

    /** A number (a + b * root of d) / c, told exactly, c above 0. */
    private static final class Num {
        final BigInteger a;
        final BigInteger b;
        final BigInteger c;
        final int d;

        Num(BigInteger a, BigInteger b, BigInteger c, int d) {
            BigInteger common = a.gcd(b).gcd(c);
            BigInteger divisor = c.signum() < 0 ? common.negate() : common;
            this.a = a.divide(divisor);
            this.b = b.divide(divisor);
            this.c = c.divide(divisor);
            this.d = d;
        }

        static Num of(long over, long under, int d) {
            return new Num(BigInteger.valueOf(over), BigInteger.ZERO, BigInteger.valueOf(under), d);
        }

        boolean isRoot() {
            return b.signum() != 0;
        }

        Num plus(Num o) {
            return new Num(a.multiply(o.c).add(o.a.multiply(c)), b.multiply(o.c).add(o.b.multiply(c)), c.multiply(o.c),
                    Math.max(d, o.d));
        }

        Num times(long factor) {
            BigInteger by = BigInteger.valueOf(factor);
            return new Num(a.multiply(by), b.multiply(by), c, d);
        }

        Num minus(Num o) {
            return plus(o.times(-1));
        }

        Num over(Num o) {
            BigInteger root = BigInteger.valueOf(Math.max(d, o.d));
            BigInteger norm = o.a.multiply(o.a).subtract(o.b.multiply(o.b).multiply(root));
            BigInteger top = a.multiply(o.a).subtract(b.multiply(o.b).multiply(root));
            BigInteger bottom = b.multiply(o.a).subtract(a.multiply(o.b));
            return new Num(top.multiply(o.c), bottom.multiply(o.c), c.multiply(norm), Math.max(d, o.d));
        }

        int sign() {
            if (a.signum() >= 0 && b.signum() >= 0) {
                return Math.max(a.signum(), b.signum());
            }
            if (a.signum() <= 0 && b.signum() <= 0) {
                return -1;
            }
            BigInteger more = a.multiply(a).subtract(b.multiply(b).multiply(BigInteger.valueOf(d)));
            return a.signum() > 0 ? more.signum() : -more.signum();
        }

        int order(Num o) {
            return minus(o).sign();
        }

        Num size() {
            return sign() < 0 ? times(-1) : this;
        }

        BigInteger floor() {
            BigInteger square = b.multiply(b).multiply(BigInteger.valueOf(d));
            BigInteger root = square.sqrt();
            BigInteger top = b.signum() >= 0 ? a.add(root) : a.subtract(root).subtract(BigInteger.ONE);
            return floorDiv(top, c);
        }

        static BigInteger floorDiv(BigInteger top, BigInteger bottom) {
            BigInteger[] parts = top.divideAndRemainder(bottom);
            return parts[1].signum() < 0 ? parts[0].subtract(BigInteger.ONE) : parts[0];
        }

        Num turned() {
            return of(1, 1, d).over(this);
        }

        Num less(BigInteger whole) {
            return new Num(a.subtract(whole.multiply(c)), b, c, d);
        }

        boolean isZero() {
            return sign() == 0;
        }

        String key() {
            return a + " " + b + " " + c;
        }
    }

    /** A row with TERMS far beyond what any call asks for. */
    private static final class Row {
        final Num number;
        final List<BigInteger> terms = new ArrayList<>();
        int begin = -1;
        int period = -1;

        Row(Num number, int most) {
            this.number = number;
            Map<String, Integer> seen = new HashMap<>();
            Num rest = number;
            for (int k = 0; k < most; k++) {
                Integer first = seen.putIfAbsent(rest.key(), k);
                if (first != null) {
                    begin = first;
                    period = k - first;
                    return;
                }
                BigInteger term = rest.floor();
                terms.add(term);
                rest = rest.less(term);
                if (rest.isZero()) {
                    return;
                }
                rest = rest.turned();
            }
        }

        boolean isRoot() {
            return number.isRoot();
        }

        boolean has(int k) {
            return isRoot() || k < terms.size();
        }

        BigInteger at(int k) {
            return k < terms.size() ? terms.get(k) : terms.get(begin + (k - begin) % period);
        }

        /** P or Q of CONVERGENT k. */
        BigInteger convergent(int k, boolean isUnder) {
            BigInteger before = isUnder ? BigInteger.ONE : BigInteger.ZERO;
            BigInteger value = isUnder ? BigInteger.ZERO : BigInteger.ONE;
            for (int next = 0; next <= k; next++) {
                BigInteger after = at(next).multiply(value).add(before);
                before = value;
                value = after;
            }
            return value;
        }
    }

    /** What an undo brings back. */
    private static final class Saved {
        final List<Row> rows;
        final List<Integer> draft;
        final int[] calendar;
        final Num year;

        Saved(Model model) {
            rows = new ArrayList<>(model.rows);
            draft = new ArrayList<>(model.draft);
            calendar = model.calendar;
            year = model.year;
        }
    }

    /** The exceptions of the document. */
    private static final class Thrown extends RuntimeException {
        private static final long serialVersionUID = 1L;

        Thrown(String name) {
            super("throws." + name);
        }
    }

    /** What the document says, done in the slowest way. */
    private static final class Model {
        private static final BigInteger BY = BigInteger.valueOf(1000003);
        List<Row> rows = new ArrayList<>();
        List<Integer> draft = new ArrayList<>();
        List<Saved> past = new ArrayList<>();
        int[] calendar = null;
        Num year = null;
        int knocks = 0;

        String answer(String name, int[] g) {
            try {
                return call(name, g);
            } catch (Thrown e) {
                return e.getMessage();
            }
        }

        private static void place(boolean isRight) {
            if (!isRight) {
                throw new Thrown("IndexOutOfBoundsException");
            }
        }

        private static void range(boolean isRight) {
            if (!isRight) {
                throw new Thrown("IllegalArgumentException");
            }
        }

        private static void state(boolean isRight) {
            if (!isRight) {
                throw new Thrown("IllegalStateException");
            }
        }

        private static boolean in(int value, int least, int most) {
            return least <= value && value <= most;
        }

        private Row row(int number) {
            place(number >= 0 && number < rows.size());
            return rows.get(number);
        }

        private void save() {
            past.add(new Saved(this));
            if (past.size() > 8) {
                past.remove(0);
            }
        }

        private static BigInteger mod(BigInteger value, int by) {
            return value.mod(BigInteger.valueOf(by));
        }

        private static boolean isSquare(int d) {
            for (int root = 0; root <= 200; root++) {
                if (root * root == d) {
                    return true;
                }
            }
            return false;
        }

        private String call(String name, int[] g) {
            switch (name) {
                case "fraction": return fraction(g[0], g[1]);
                case "root": return root(g[0], g[1], g[2]);
                case "push": return push(g[0]);
                case "pop": return pop();
                case "finish": return finish();
                case "map": return map(g);
                case "remove": return remove(g[0]);
                case "undo": return undo();
                case "knock": return "" + ++knocks;
                case "ofRow": return ofRow(g[0], g[1]);
                case "term": return term(g[0], g[1], g[2]);
                case "terms": return terms(g[0]);
                case "draft":
                    place(g[0] >= 0 && g[0] < draft.size());
                    return "" + draft.get(g[0]);
                case "sameTail": return "" + sameTail(row(g[0]), row(g[1]));
                case "machine": return machine(g);
                case "convergent":
                    reach(g[0], g[1]);
                    range(in(g[3], 1, 1000003));
                    return "" + mod(row(g[0]).convergent(g[1], g[2] == 1), g[3]);
                case "convergentText":
                    reach(g[0], g[1]);
                    return row(g[0]).convergent(g[1], false) + "/" + row(g[0]).convergent(g[1], true);
                case "cross": return cross(g[0], g[1]);
                case "side":
                    reach(g[0], g[1]);
                    return "" + row(g[0]).number.order(new Num(row(g[0]).convergent(g[1], false), BigInteger.ZERO,
                            row(g[0]).convergent(g[1], true), row(g[0]).number.d));
                default: return call2(name, g);
            }
        }

        private String call2(String name, int[] g) {
            switch (name) {
                case "best": {
                    Row row = row(g[0]);
                    range(in(g[1], 1, 9999) && in(g[2], 0, 1) && in(g[4], 1, 1000003));
                    return "" + mod(best(row.number, g[1], g[2])[g[3]], g[4]);
                }
                case "bestText": {
                    Row row = row(g[0]);
                    range(in(g[1], 1, 9999) && in(g[2], 0, 1));
                    BigInteger[] best = best(row.number, g[1], g[2]);
                    return best[0] + "/" + best[1];
                }
                case "isBest": {
                    Row row = row(g[0]);
                    range(in(g[1], -999999, 999999) && in(g[2], 1, 9999) && in(g[3], 0, 1));
                    BigInteger[] best = best(row.number, g[2], g[3]);
                    return "" + (best[0].equals(BigInteger.valueOf(g[1])) && best[1].equals(BigInteger.valueOf(g[2])));
                }
                case "bests": return bests(g[0], g[1], g[2]);
                case "nearer": return nearer(g);
                case "against": {
                    Row row = row(g[0]);
                    range(in(g[1], -999999, 999999) && in(g[2], 0, 9999));
                    return g[2] == 0 ? "-9" : "" + row.number.order(Num.of(g[1], g[2], row.number.d));
                }
                case "compare": {
                    row(g[0]);
                    row(g[1]);
                    return "" + compare(row(g[0]), row(g[1]));
                }
                case "gears": return gears(g);
                case "post": {
                    Row row = row(g[0]);
                    range(in(g[1], 0, 9999) && in(g[2], 1, 1000003));
                    return "" + mod(post(row, g[1]), g[2]);
                }
                case "step": {
                    Row row = row(g[0]);
                    range(in(g[1], 0, 9998));
                    return "" + step(row, g[1]);
                }
                case "longSteps": {
                    Row row = row(g[0]);
                    range(in(g[1], 0, 9998) && in(g[2], g[1], 9998));
                    return "" + longSteps(row, g[1], g[2]);
                }
                case "fence": {
                    Row row = row(g[0]);
                    range(in(g[1], 0, 9900) && in(g[2], 1, 40));
                    StringBuilder text = new StringBuilder();
                    for (int k = g[1]; k < g[1] + g[2]; k++) {
                        text.append(step(row, k));
                    }
                    return text.toString();
                }
                default: return call3(name, g);
            }
        }

        private String call3(String name, int[] g) {
            switch (name) {
                case "calendar": return calendar(g[0], g[1]);
                case "ofCalendar":
                    range(in(g[0], 0, 2));
                    state(calendar != null);
                    return "" + calendar[g[0]];
                case "isLeap":
                    year(g[0]);
                    return "" + (begin(g[0] + 1) - begin(g[0]) == calendar[0] + 1);
                case "days":
                    year(g[0]);
                    return "" + begin(g[0]);
                case "yearOf": return yearOf(g[0]);
                case "drift":
                    year(g[0]);
                    return "" + drift(g[0]);
                case "squareRoot": return g[0] < 0 ? "-9" : "" + BigInteger.valueOf(g[0]).sqrt();
                case "answer": {
                    equation(g[0], g[1]);
                    range(in(g[2], 0, 8) && in(g[4], 1, 1000003));
                    List<BigInteger[]> all = Pell.answers(g[0], g[1]);
                    return all.isEmpty() ? "-1" : "" + mod(all.get(g[2])[g[3]], g[4]);
                }
                case "answerText": {
                    equation(g[0], g[1]);
                    range(in(g[2], 0, 8));
                    List<BigInteger[]> all = Pell.answers(g[0], g[1]);
                    return all.isEmpty() ? "" : all.get(g[2])[0] + "," + all.get(g[2])[1];
                }
                case "answers": {
                    equation(g[0], g[1]);
                    range(in(g[2], 1, 20));
                    long many = 0;
                    for (BigInteger[] pair : Pell.answers(g[0], g[1])) {
                        many += pair[1].toString().length() <= g[2] ? 1 : 0;
                    }
                    return "" + many;
                }
                case "rootPeriod":
                    range(in(g[0], 2, 199) && !isSquare(g[0]));
                    return "" + Pell.row(g[0]).period;
                case "house":
                    range(in(g[0], 0, 4));
                    return "" + house(g[0]);
                case "isSound": return "true";
                case "digest": return "" + digest();
                default: throw new UnsupportedOperationException(name);
            }
        }

        private void reach(int row, int k) {
            place(in(k, 0, 60) && row(row).has(k));
        }

        private static void equation(int d, int n) {
            range(in(d, 2, 199) && !isSquare(d) && n != 0 && (long) n * n < d);
        }

        private void year(int number) {
            range(in(number, 0, 9999));
            state(calendar != null);
        }

        private int house(int what) {
            int[] all = {rows.size(), draft.size(), past.size(), knocks, calendar == null ? 0 : 1};
            return all[what];
        }

        private String keep(Num number) {
            Row row = new Row(number, 121);
            state(row.isRoot() ? row.begin >= 0 && row.begin + row.period <= 120 : row.terms.size() <= 120);
            save();
            rows.add(row);
            return "" + (rows.size() - 1);
        }

        private String fraction(int p, int q) {
            range(in(p, -99999, 99999) && in(q, -9999, 9999));
            state(rows.size() < 8);
            return q == 0 ? "-9" : keep(Num.of(p, q, 0));
        }

        private String root(int p, int d, int q) {
            range(in(p, -99, 99) && in(d, -9, 199) && in(q, -6, 6) && !isSquare(d));
            state(rows.size() < 8);
            if (d < 0 || q == 0) {
                return "-9";
            }
            return keep(new Num(BigInteger.valueOf(p), BigInteger.ONE, BigInteger.valueOf(q), d));
        }

        private String push(int term) {
            range(in(term, draft.isEmpty() ? -99 : 1, 99));
            state(draft.size() < 24);
            save();
            draft.add(term);
            return "" + draft.size();
        }

        private String pop() {
            if (draft.isEmpty()) {
                return "-9";
            }
            save();
            return "" + draft.remove(draft.size() - 1);
        }

        private String finish() {
            state(!draft.isEmpty() && rows.size() < 8);
            Num made = Num.of(draft.get(draft.size() - 1), 1, 0);
            for (int k = draft.size() - 2; k >= 0; k--) {
                made = Num.of(draft.get(k), 1, 0).plus(made.turned());
            }
            String number = keep(made);
            draft = new ArrayList<>();
            return number;
        }

        private static Num mapped(Num x, int a, int b, int c, int d) {
            Num under = x.times(c).plus(Num.of(d, 1, x.d));
            return under.isZero() ? null : x.times(a).plus(Num.of(b, 1, x.d)).over(under);
        }

        private static boolean isMap(int[] g) {
            return in(g[1], -9, 9) && in(g[2], -9, 9) && in(g[3], -9, 9) && in(g[4], -9, 9)
                    && g[1] * g[4] != g[2] * g[3];
        }

        private String map(int[] g) {
            Row row = row(g[0]);
            range(isMap(g));
            state(rows.size() < 8);
            Num made = mapped(row.number, g[1], g[2], g[3], g[4]);
            return made == null ? "-9" : keep(made);
        }

        private String remove(int row) {
            row(row);
            save();
            rows.remove(row);
            return "" + rows.size();
        }

        private String undo() {
            state(!past.isEmpty());
            Saved last = past.remove(past.size() - 1);
            rows = new ArrayList<>(last.rows);
            draft = new ArrayList<>(last.draft);
            calendar = last.calendar;
            year = last.year;
            return "" + past.size();
        }

        private String ofRow(int number, int what) {
            Row row = row(number);
            range(in(what, 0, 5));
            return "" + told(row, what);
        }

        private static int told(Row row, int what) {
            switch (what) {
                case 0: return row.isRoot() ? 1 : 0;
                case 1: return row.isRoot() ? row.begin + row.period : row.terms.size();
                case 2: return row.begin;
                case 3: return row.period;
                case 4: return row.number.sign();
                default: return row.isRoot() ? isMirrored(row) : -1;
            }
        }

        private static int isMirrored(Row row) {
            List<BigInteger> ahead = new ArrayList<>();
            List<BigInteger> back = new ArrayList<>();
            for (int k = row.begin; k <= row.begin + row.period - 2; k++) {
                ahead.add(row.at(k));
                back.add(0, row.at(k));
            }
            return ahead.equals(back) ? 1 : 0;
        }

        private String term(int number, int k, int by) {
            Row row = row(number);
            place(in(k, 0, 999) && row.has(k));
            range(in(by, 1, 1000003));
            return "" + mod(row.at(k), by);
        }

        private String terms(int number) {
            return text(row(number));
        }

        private static String text(Row row) {
            StringBuilder text = new StringBuilder();
            int many = told(row, 1);
            for (int k = 0; k < many; k++) {
                text.append(k > 0 ? " " : "").append(k == row.begin ? "(" : "").append(row.at(k));
            }
            return text.append(row.isRoot() ? ")" : "").toString();
        }

        private static boolean sameTail(Row row, Row other) {
            if (!row.isRoot() || !other.isRoot()) {
                return row.isRoot() == other.isRoot();
            }
            for (int i = row.begin; i < row.begin + row.period; i++) {
                if (isSame(row, i, other, other.begin)) {
                    return true;
                }
            }
            return false;
        }

        private static boolean isSame(Row row, int i, Row other, int j) {
            for (int k = 0; k < 260; k++) {
                if (!row.at(i + k).equals(other.at(j + k))) {
                    return false;
                }
            }
            return true;
        }

        private String machine(int[] g) {
            Row row = row(g[0]);
            range(isMap(g) && in(g[5], 0, 20));
            Num made = mapped(row.number, g[1], g[2], g[3], g[4]);
            if (made == null) {
                return "-9";
            }
            Row told = new Row(made, 22);
            return told.begin >= 0 || g[5] < told.terms.size() ? "" + told.at(g[5]).mod(BY) : "-1";
        }

        private String cross(int number, int k) {
            reach(number, k);
            Row row = row(number);
            return "" + row.convergent(k, false).multiply(row.convergent(k - 1, true))
                    .subtract(row.convergent(k - 1, false).multiply(row.convergent(k, true)));
        }

        /** Tries every denominator; of the numerators only the two next to b * x can be the least far ones. */
        static BigInteger[] best(Num x, int most, int kind) {
            BigInteger bestA = null;
            int bestB = 0;
            Num bestFar = null;
            for (int b = 1; b <= most; b++) {
                BigInteger below = x.times(b).floor();
                for (int up = 0; up <= 1; up++) {
                    BigInteger a = below.add(BigInteger.valueOf(up));
                    Num far = x.times(b).less(a).size();
                    if (kind == 0) {
                        far = far.over(Num.of(b, 1, x.d));
                    }
                    if (bestFar == null || far.order(bestFar) < 0) {
                        bestA = a;
                        bestB = b;
                        bestFar = far;
                    }
                }
                if (bestFar.isZero()) {
                    break;
                }
            }
            return new BigInteger[] {bestA, BigInteger.valueOf(bestB)};
        }

        int[] bestSmall(int row, int most, int kind) {
            BigInteger[] best = best(rows.get(row).number, Math.max(1, Math.min(most, 400)), kind);
            return best[0].bitLength() > 19 ? new int[] {1, 1} : new int[] {best[0].intValue(), best[1].intValue()};
        }

        private String bests(int number, int most, int kind) {
            Row row = row(number);
            range(in(most, 1, 60) && in(kind, 0, 1));
            Map<String, Integer> unlike = new HashMap<>();
            for (int bound = 1; bound <= most; bound++) {
                BigInteger[] best = best(row.number, bound, kind);
                unlike.put(best[0] + "/" + best[1], 1);
            }
            return "" + unlike.size();
        }

        private String nearer(int[] g) {
            Row row = row(g[0]);
            range(in(g[1], -999999, 999999) && in(g[2], 0, 9999) && in(g[3], -999999, 999999) && in(g[4], 0, 9999));
            if (g[2] == 0 || g[4] == 0) {
                return "-9";
            }
            Num x = row.number;
            return "" + x.minus(Num.of(g[1], g[2], x.d)).size().order(x.minus(Num.of(g[3], g[4], x.d)).size());
        }

        /** Two roots of unlike numbers are told apart by a third one, so that no exact number with two roots is needed. */
        private static int compare(Row row, Row other) {
            if (!row.isRoot() || !other.isRoot() || row.number.d == other.number.d) {
                return row.number.order(other.number);
            }
            BigInteger scale = BigInteger.ONE;
            for (int digits = 0; digits < 3000; digits++) {
                BigInteger one = scaled(row.number, scale);
                BigInteger two = scaled(other.number, scale);
                if (!one.equals(two)) {
                    return one.compareTo(two);
                }
                boolean isSquareRatio = isSquare(row.number, other.number);
                if (isSquareRatio) {
                    return sameField(row.number, other.number);
                }
                scale = scale.multiply(BigInteger.TEN.pow(7));
            }
            throw new IllegalStateException("numbers that cannot be told apart");
        }

        private static BigInteger scaled(Num x, BigInteger scale) {
            return new Num(x.a.multiply(scale), x.b.multiply(scale), x.c, x.d).floor();
        }

        private static boolean isSquare(Num x, Num y) {
            BigInteger product = BigInteger.valueOf((long) x.d * y.d);
            BigInteger root = product.sqrt();
            return root.multiply(root).equals(product);
        }

        /** The root of d is that of e times a fraction. */
        private static int sameField(Num x, Num y) {
            BigInteger root = BigInteger.valueOf((long) x.d * y.d).sqrt();
            BigInteger d = BigInteger.valueOf(y.d);
            Num same = new Num(x.a.multiply(d), x.b.multiply(root), x.c.multiply(d), y.d);
            return same.order(y);
        }

        private String gears(int[] g) {
            Row row = row(g[0]);
            range(in(g[1], 1, 40) && in(g[2], g[1], 40));
            int bestA = 0;
            int bestB = 0;
            Num bestFar = null;
            for (int b = g[1]; b <= g[2]; b++) {
                for (int a = g[1]; a <= g[2]; a++) {
                    Num far = row.number.minus(Num.of(a, b, row.number.d)).size();
                    if (bestFar == null || far.order(bestFar) < 0) {
                        bestA = a;
                        bestB = b;
                        bestFar = far;
                    }
                }
            }
            return "" + (g[3] == 1 ? bestB : bestA);
        }

        private static BigInteger post(Row row, int k) {
            return row.number.times(k).floor();
        }

        private static int step(Row row, int k) {
            return post(row, k + 1).subtract(post(row, k)).subtract(row.at(0)).intValueExact();
        }

        private static int longSteps(Row row, int from, int to) {
            int many = 0;
            for (int k = from; k <= to; k++) {
                many += step(row, k) == 1 ? 1 : 0;
            }
            return many;
        }

        private String calendar(int number, int most) {
            Row row = row(number);
            range(in(most, 1, 9999));
            state(row.at(0).signum() >= 0 && row.at(0).compareTo(BigInteger.valueOf(9999)) <= 0);
            BigInteger[] best = best(row.number.less(row.at(0)), most, 0);
            save();
            calendar = new int[] {row.at(0).intValueExact(), best[0].intValueExact(), best[1].intValueExact()};
            year = row.number;
            return "" + calendar[2];
        }

        private int begin(int number) {
            return number * calendar[0] + (int) Math.floorDiv((long) number * calendar[1], (long) calendar[2]);
        }

        private String yearOf(int day) {
            range(day >= 0);
            state(calendar != null);
            for (int number = 0; number <= 9999; number++) {
                if (begin(number) <= day && day < begin(number + 1)) {
                    return "" + number;
                }
            }
            return "-1";
        }

        int someDay(Random random) {
            return calendar == null ? 5 : Math.max(0, begin(random.nextInt(10002)) + random.nextInt(3) - 1);
        }

        private BigInteger drift(int number) {
            return Num.of(begin(number), 1, year.d).minus(year.times(number)).times(100).floor();
        }

        private long digest() {
            long sum = 4909;
            for (int what = 0; what <= 4; what++) {
                sum = sum * 31 + house(what);
            }
            for (int term : draft) {
                sum = sum * 31 + term;
            }
            for (Row row : rows) {
                for (long value : ofDigest(row)) {
                    sum = sum * 31 + value;
                }
            }
            if (calendar != null) {
                for (int value : calendar) {
                    sum = sum * 31 + value;
                }
                sum = sum * 31 + begin(400);
                sum = sum * 31 + drift(400).longValueExact();
            }
            return sum * 31 + 1;
        }

        private List<Long> ofDigest(Row row) {
            List<Long> all = new ArrayList<>();
            for (int what = 0; what <= 5; what++) {
                all.add((long) told(row, what));
            }
            all.add((long) text(row).length());
            for (int k = 0; k <= 7 && row.has(k); k++) {
                all.add(row.at(k).mod(BY).longValue());
                all.add(row.convergent(k, false).mod(BY).longValue());
                all.add(row.convergent(k, true).mod(BY).longValue());
            }
            for (int kind = 0; kind <= 1; kind++) {
                for (BigInteger part : best(row.number, 100, kind)) {
                    all.add(part.mod(BY).longValue());
                }
            }
            all.add(post(row, 100).mod(BY).longValue());
            all.add((long) longSteps(row, 0, 20));
            all.add((long) row.number.order(Num.of(1, 2, row.number.d)));
            all.add((long) compare(row, rows.get(0)));
            all.add(sameTail(row, rows.get(0)) ? 1L : 0L);
            return all;
        }
    }

    /** Answers of x * x - d * y * y = n: those with a small y by trying all, the others among the convergents. */
    private static final class Pell {
        private static final Map<String, List<BigInteger[]>> KNOWN = new HashMap<>();
        private static final Map<Integer, Row> ROOTS = new HashMap<>();
        private static final int TRIED = 3000;

        static Row row(int d) {
            return ROOTS.computeIfAbsent(d, any -> new Row(new Num(BigInteger.ZERO, BigInteger.ONE, BigInteger.ONE, any),
                    300));
        }

        static List<BigInteger[]> answers(int d, int n) {
            return KNOWN.computeIfAbsent(d + " " + n, any -> find(d, n));
        }

        private static List<BigInteger[]> find(int d, int n) {
            List<BigInteger[]> found = new ArrayList<>();
            Row row = row(d);
            BigInteger before = BigInteger.ZERO;
            BigInteger under = BigInteger.ONE;
            BigInteger underBefore = BigInteger.ONE;
            BigInteger over = BigInteger.ONE;
            under = BigInteger.ZERO;
            for (int k = 0; k < 40 * row.period + 120; k++) {
                BigInteger nextOver = row.at(k).multiply(over).add(before);
                BigInteger nextUnder = row.at(k).multiply(under).add(underBefore);
                before = over;
                underBefore = under;
                over = nextOver;
                under = nextUnder;
                BigInteger left = over.multiply(over).subtract(under.multiply(under).multiply(BigInteger.valueOf(d)));
                if (left.equals(BigInteger.valueOf(n))) {
                    found.add(new BigInteger[] {over, under});
                }
            }
            check(d, n, found);
            return found;
        }

        private static void check(int d, int n, List<BigInteger[]> found) {
            int next = 0;
            for (long y = 1; y <= TRIED; y++) {
                BigInteger square = BigInteger.valueOf(d * y * y + n);
                BigInteger x = square.signum() > 0 ? square.sqrt() : BigInteger.ZERO;
                boolean isAnswer = x.signum() > 0 && x.multiply(x).equals(square)
                        && x.gcd(BigInteger.valueOf(y)).equals(BigInteger.ONE);
                if (isAnswer && !(next < found.size() && found.get(next)[0].equals(x)
                        && found.get(next)[1].equals(BigInteger.valueOf(y)))) {
                    throw new IllegalStateException("the model misses an answer: " + d + " " + n + " " + y);
                }
                next += isAnswer ? 1 : 0;
            }
        }
    }
}
