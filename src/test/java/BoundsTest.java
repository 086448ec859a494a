import java.util.function.Supplier;

/**
 * Each bound that a method's section names, argument by argument: one below the least, the least, the greatest, and one
 * above the greatest. What throws must leave all as it was: a twin that was not asked tells the same, undone to the end.
 */
public final class BoundsTest {
    private static final String PLACE = "IndexOutOfBoundsException";
    private static final String RANGE = "IllegalArgumentException";
    private static final String STATE = "IllegalStateException";
    private static int wrong = 0;
    private static int asked = 0;

    /** A call with the argument whose bounds are looked at. */
    private interface Call {
        Object of(Stepsdown x, int value);
    }

    public static void main(String[] args) {
        rowsOfAllMethods();
        fractions();
        roots();
        drafts();
        finishes();
        maps();
        mapsThatAreLong();
        removesAndUndoes();
        termsAndPlaces();
        lastTermsOfFractions();
        machines();
        bests();
        bestsByOne();
        comparisons();
        gears();
        fences();
        calendars();
        calendarsByTermZero();
        years();
        squareRoots();
        equations();
        answers();
        houses();
        System.out.println(asked + " questions, " + wrong + " wrong answers");
        System.exit(wrong == 0 ? 0 : 1);
    }

    private static void due(String what, Object want, Object got) {
        asked++;
        if (!String.valueOf(want).equals(String.valueOf(got))) {
            wrong++;
            System.out.println(what + " answered " + got + ", due is " + want);
        }
    }

    /** What a call answers; an exception as "throws." and its name. */
    private static String answer(Stepsdown x, Call call, int value) {
        try {
            return String.valueOf(call.of(x, value));
        } catch (RuntimeException e) {
            return "throws." + e.getClass().getSimpleName();
        }
    }

    /** All that an object holds, and what it held ahead of each step back: it is undone to the end. */
    private static String told(Stepsdown x) {
        StringBuilder text = new StringBuilder();
        text.append("knocks ").append(x.house(3));
        for (int left = x.house(2); left >= 0; left--) {
            text.append(" | ").append(left).append(" rows");
            int rows = x.house(0);
            int terms = x.house(1);
            int calendars = x.house(4);
            for (int row = 0; row < rows; row++) {
                text.append(' ').append(x.terms(row)).append(';');
            }
            text.append(" draft");
            for (int k = 0; k < terms; k++) {
                text.append(' ').append(x.draft(k));
            }
            for (int what = 0; what <= 2 && calendars == 1; what++) {
                text.append(" calendar ").append(x.ofCalendar(what));
            }
            if (left > 0) {
                x.undo();
            }
        }
        return text.toString();
    }

    private static void throwing(String what, String name, Supplier<Stepsdown> made, Call call, int value) {
        Stepsdown x = made.get();
        due(what + " of " + value, "throws." + name, answer(x, call, value));
        due(what + " of " + value + " changes nothing", told(made.get()), told(x));
    }

    private static void right(String what, Object want, Supplier<Stepsdown> made, Call call, int value) {
        due(what + " of " + value, want, answer(made.get(), call, value));
    }

    private static void bound(String what, String name, Supplier<Stepsdown> made, int least, int most, Call call,
            Object dueLeast, Object dueMost) {
        throwing(what, name, made, call, least - 1);
        throwing(what, name, made, call, Integer.MIN_VALUE);
        right(what, dueLeast, made, call, least);
        right(what, dueMost, made, call, most);
        throwing(what, name, made, call, most + 1);
        throwing(what, name, made, call, Integer.MAX_VALUE);
    }

    /** Rows 45/16, root of 7 and -7/2, the draft -5 3, a calendar of 45/16, a knock, and eight steps to undo. */
    private static Stepsdown busy() {
        Stepsdown x = new Stepsdown();
        x.fraction(1, 3);
        x.push(-5);
        x.fraction(45, 16);
        x.remove(0);
        x.root(0, 7, 1);
        x.push(3);
        x.calendar(0, 100);
        x.push(2);
        x.pop();
        x.knock();
        x.fraction(-7, 2);
        return x;
    }

    private static Stepsdown house(int... pairs) {
        Stepsdown x = new Stepsdown();
        for (int at = 0; at + 1 < pairs.length; at += 2) {
            x.fraction(pairs[at], pairs[at + 1]);
        }
        return x;
    }

    private static Stepsdown seven() {
        return house(1, 2, 1, 3, 1, 4, 1, 5, 1, 6, 1, 7, 1, 8);
    }

    private static Stepsdown eight() {
        Stepsdown x = seven();
        x.fraction(3, 2);
        return x;
    }

    /** The row's terms, and how many rows there are. */
    private static String row(Stepsdown x, int row) {
        return x.terms(row) + ";" + x.house(0);
    }

    private static void rows(String what, Call call, Object dueLeast, Object dueMost) {
        bound(what, PLACE, BoundsTest::busy, 0, 2, call, dueLeast, dueMost);
        throwing(what + " in an empty house", PLACE, Stepsdown::new, call, 0);
        throwing(what + " in a full house", PLACE, BoundsTest::eight, call, 8);
    }

    private static void rowsOfAllMethods() {
        rows("map row", (x, row) -> row(x, x.map(row, 1, 1, 0, 1)), "3 1 4 3;4", "-3 2;4");
        rows("remove row", (x, row) -> x.remove(row) + " " + x.terms(0), "2 2 (1 1 1 4)", "2 2 1 4 3");
        rows("ofRow row", (x, row) -> x.ofRow(row, 1), 4, 2);
        rows("term row", (x, row) -> x.term(row, 0, 10), 2, 6);
        rows("terms row", (x, row) -> x.terms(row), "2 1 4 3", "-4 2");
        rows("sameTail row", (x, row) -> x.sameTail(row, 0), true, true);
        rows("sameTail other", (x, row) -> x.sameTail(0, row), true, true);
        rows("machine row", (x, row) -> x.machine(row, 1, 1, 0, 1, 0), 3, 1000000);
        rows("convergent row", (x, row) -> x.convergent(row, 1, false, 10), 3, 3);
        rows("convergentText row", (x, row) -> x.convergentText(row, 1), "3/1", "-7/2");
        rows("cross row", (x, row) -> x.cross(row, 1), 1, 1);
        rows("side row", (x, row) -> x.side(row, 1), -1, 0);
        rows("best row", (x, row) -> x.best(row, 16, 0, true, 100), 16, 2);
        rows("bestText row", (x, row) -> x.bestText(row, 16, 1), "45/16", "-7/2");
        rows("isBest row", (x, row) -> x.isBest(row, 3, 1, 0), true, false);
        rows("bests row", (x, row) -> x.bests(row, 16, 1), 3, 2);
        rows("nearer row", (x, row) -> x.nearer(row, 3, 1, -3, 1), -1, 1);
        rows("against row", (x, row) -> x.against(row, 1, 1), 1, -1);
        rows("compare row", (x, row) -> x.compare(row, 0), 0, -1);
        rows("compare other", (x, row) -> x.compare(0, row), 0, 1);
        rows("gears row", (x, row) -> x.gears(row, 1, 40, true), 11, 40);
        rows("post row", (x, row) -> x.post(row, 3, 100), 8, 89);
        rows("step row", (x, row) -> x.step(row, 1), 1, 1);
        rows("longSteps row", (x, row) -> x.longSteps(row, 0, 15), 13, 8);
        rows("fence row", (x, row) -> x.fence(row, 0, 3), "011", "010");
        bound("calendar row", PLACE, BoundsTest::busy, 0, 1, (x, row) -> row == 2 ? x.terms(3) : x.calendar(row, 9), 5, 8);
        throwing("calendar row in an empty house", PLACE, Stepsdown::new, (x, row) -> x.calendar(row, 9), 0);
        throwing("calendar row", PLACE, BoundsTest::busy, (x, row) -> x.calendar(row, 9), 3);
    }

    private static void fractions() {
        bound("fraction p", RANGE, BoundsTest::busy, -99999, 99999, (x, p) -> row(x, x.fraction(p, 7)), "-14286 2 3;4",
                "14285 1 1 3;4");
        bound("fraction q", RANGE, BoundsTest::busy, -9999, 9999, (x, q) -> row(x, x.fraction(1, q)), "-1 1 9998;4",
                "0 9999;4");
        right("fraction p and q at their least", "10 1111;4", BoundsTest::busy, (x, p) -> row(x, x.fraction(p, -9999)),
                -99999);
        right("the eighth fraction", 7, BoundsTest::seven, (x, p) -> x.fraction(p, 2), 1);
        throwing("a ninth fraction", STATE, BoundsTest::eight, (x, p) -> x.fraction(p, 2), 1);
        right("fraction q of", "-1;4", BoundsTest::busy, (x, q) -> row(x, x.fraction(1, q)), -1);
        right("fraction q of", -9, BoundsTest::busy, (x, q) -> x.fraction(1, q), 0);
        right("fraction q of", "1;4", BoundsTest::busy, (x, q) -> row(x, x.fraction(1, q)), 1);
    }

    private static void roots() {
        bound("root p", RANGE, BoundsTest::busy, -99, 99, (x, p) -> row(x, x.root(p, 2, 1)), "-98 (2);4", "100 (2);4");
        bound("root d", RANGE, BoundsTest::busy, -9, 199, (x, d) -> d < 0 ? x.root(0, d, 1) : row(x, x.root(0, d, 1)), -9,
                "14 (9 2 1 2 2 5 4 1 1 13 1 1 4 5 2 2 1 2 9 28);4");
        bound("root q", RANGE, BoundsTest::busy, -6, 6, (x, q) -> row(x, x.root(0, 2, q)), "-1 1 3 (4 8);4", "0 4 (4 8);4");
        right("root q", "-2 1 1 (2);4", BoundsTest::busy, (x, q) -> row(x, x.root(0, 2, q)), -1);
        right("root q", -9, BoundsTest::busy, (x, q) -> x.root(0, 2, q), 0);
        right("root q", "1 (2);4", BoundsTest::busy, (x, q) -> row(x, x.root(0, 2, q)), 1);
        right("root d", -9, BoundsTest::busy, (x, d) -> x.root(0, d, 1), -1);
        right("root d", "1 (2);4", BoundsTest::busy, (x, d) -> row(x, x.root(0, d, 1)), 2);
        right("root d", "1 (1 2);4", BoundsTest::busy, (x, d) -> row(x, x.root(0, d, 1)), 3);
        for (int root = 0; root <= 14; root++) {
            throwing("root d, a square", RANGE, BoundsTest::busy, (x, d) -> x.root(0, d, 1), root * root);
        }
        for (int below = -9; below < 0; below++) {
            right("root d below 0", -9, BoundsTest::busy, (x, d) -> x.root(1, d, 2), below);
        }
        right("the eighth root", 7, BoundsTest::seven, (x, p) -> x.root(p, 2, 1), 1);
        throwing("a ninth root", STATE, BoundsTest::eight, (x, p) -> x.root(p, 2, 1), 1);
    }

    private static Stepsdown drafted(int many) {
        Stepsdown x = new Stepsdown();
        for (int k = 0; k < many; k++) {
            x.push(k + 1);
        }
        return x;
    }

    private static Stepsdown emptied() {
        Stepsdown x = drafted(2);
        x.pop();
        x.pop();
        return x;
    }

    private static void drafts() {
        Call push = (x, term) -> x.push(term) + ":" + x.draft(x.house(1) - 1);
        bound("push with an empty draft", RANGE, Stepsdown::new, -99, 99, push, "1:-99", "1:99");
        bound("push with an emptied draft", RANGE, BoundsTest::emptied, -99, 99, push, "1:-99", "1:99");
        right("push with an empty draft", "1:0", Stepsdown::new, push, 0);
        bound("push with one", RANGE, () -> drafted(1), 1, 99, push, "2:1", "2:99");
        bound("push with 23", RANGE, () -> drafted(23), 1, 99, push, "24:1", "24:99");
        throwing("push with 24", STATE, () -> drafted(24), push, 1);
        throwing("push with 24", STATE, () -> drafted(24), push, 99);
        right("pop with none", -9, Stepsdown::new, (x, any) -> x.pop(), 0);
        right("pop with one", "1 0", () -> drafted(1), (x, any) -> x.pop() + " " + x.house(1), 0);
        right("pop with 24", "24 23", () -> drafted(24), (x, any) -> x.pop() + " " + x.house(1), 0);
        bound("draft k", PLACE, () -> drafted(24), 0, 23, (x, k) -> x.draft(k), 1, 24);
        bound("draft k with one", PLACE, () -> drafted(1), 0, 0, (x, k) -> x.draft(k), 1, 1);
        throwing("draft k with none", PLACE, Stepsdown::new, (x, k) -> x.draft(k), 0);
        throwing("draft k with an emptied draft", PLACE, BoundsTest::emptied, (x, k) -> x.draft(k), 0);
    }

    private static void finishes() {
        Call finish = (x, any) -> row(x, x.finish()) + ";" + x.house(1);
        throwing("finish with none", STATE, Stepsdown::new, finish, 0);
        throwing("finish with an emptied draft", STATE, BoundsTest::emptied, finish, 0);
        right("finish with one", "1;1;0", () -> drafted(1), finish, 0);
        right("finish with 24", "1 2 3 4 5 6 7 8 9 10 11 12 13 14 15 16 17 18 19 20 21 22 23 24;1;0", () -> drafted(24),
                finish, 0);
        Supplier<Stepsdown> sevenMade = () -> {
            Stepsdown x = seven();
            x.push(-9);
            return x;
        };
        Supplier<Stepsdown> eightMade = () -> {
            Stepsdown x = eight();
            x.push(-9);
            return x;
        };
        right("finish with 7 rows", "-9;8;0", sevenMade, finish, 0);
        throwing("finish with 8 rows", STATE, eightMade, finish, 0);
        throwing("finish with 8 rows and none", STATE, BoundsTest::eight, finish, 0);
    }

    private static void maps() {
        bound("map a", RANGE, BoundsTest::busy, -9, 9, (x, a) -> row(x, x.map(0, a, 0, 0, 1)), "-26 1 2 5;4", "25 3 5;4");
        bound("map b", RANGE, BoundsTest::busy, -9, 9, (x, b) -> row(x, x.map(0, 1, b, 0, 1)), "-7 1 4 3;4", "11 1 4 3;4");
        bound("map c", RANGE, BoundsTest::busy, -9, 9, (x, c) -> row(x, x.map(0, 0, 1, c, 0)), "-1 1 24 3 5;4",
                "0 25 3 5;4");
        bound("map d", RANGE, BoundsTest::busy, -9, 9, (x, d) -> row(x, x.map(0, 0, 1, 1, d)), "-1 1 5 5 3;4",
                "0 11 1 4 3;4");
        bound("map a of a root", RANGE, BoundsTest::busy, -9, 9, (x, a) -> row(x, x.map(1, a, 0, 0, 1)),
                "-24 5 (3 4 1 46 1 4);4", "23 (1 4 3 4 1 46);4");
        bound("map c of a root", RANGE, BoundsTest::busy, -9, 9, (x, c) -> row(x, x.map(1, 0, 1, c, 0)),
                "-1 1 22 (1 4 3 4 1 46);4", "0 23 (1 4 3 4 1 46);4");
        throwing("map with a * d = b * c", RANGE, BoundsTest::busy, (x, a) -> x.map(0, a, 4, 3, 6), 2);
        right("map with a * d one above b * c", "0 1 1 2 3 1 4 3;4", BoundsTest::busy, (x, a) -> row(x, x.map(0, a, 4, 5, 7)),
                3);
        throwing("map with zeros", RANGE, BoundsTest::busy, (x, a) -> x.map(0, a, 0, 0, 0), 0);
        throwing("map with a and b alone", RANGE, BoundsTest::busy, (x, a) -> x.map(0, a, 1, 0, 0), 1);
        throwing("map with c and d alone", RANGE, BoundsTest::busy, (x, a) -> x.map(0, a, 0, 1, 1), 0);
        throwing("map with a far a, whose product wraps around", RANGE, BoundsTest::busy, (x, a) -> x.map(0, a, 0, 0, 4),
                1 << 30);
        right("the eighth row by map", 7, BoundsTest::seven, (x, row) -> x.map(row, 1, 0, 0, 1), 6);
        throwing("a ninth row by map", STATE, BoundsTest::eight, (x, row) -> x.map(row, 1, 0, 0, 1), 7);
        right("map by 0 with 7 rows", -9, BoundsTest::seven, (x, row) -> x.map(row, 1, 0, 2, -1), 0);
        throwing("map by 0 with 8 rows", STATE, BoundsTest::eight, (x, row) -> x.map(row, 1, 0, 2, -1), 0);
    }

    /** A fraction LONG by so many. */
    private static Stepsdown tall(int many) {
        Stepsdown x = new Stepsdown();
        for (int k = 0; k < 23; k++) {
            x.push(1 + k % 3);
        }
        x.push(4);
        x.finish();
        return lengthened(x, many - 24);
    }

    private static Stepsdown lengthened(Stepsdown x, int many) {
        for (int more = 0; more < many; more++) {
            x.map(0, 2, 1, 1, 0);
            x.remove(0);
        }
        return x;
    }

    private static Stepsdown rooted(int p, int d, int q) {
        Stepsdown x = new Stepsdown();
        x.root(p, d, q);
        return x;
    }

    private static void mapsThatAreLong() {
        Call longer = (x, row) -> x.ofRow(x.map(row, 2, 1, 1, 0), 1);
        right("a map to a fraction LONG by 120", 120, () -> tall(119), longer, 0);
        throwing("a map to a fraction LONG by 121", STATE, () -> tall(120), longer, 0);
        right("a map to a root LONG by 120, with a period of 1", 120, () -> lengthened(rooted(0, 2, 1), 117), longer, 0);
        throwing("a map to a root LONG by 121, with a period of 1", STATE, () -> lengthened(rooted(0, 2, 1), 118), longer,
                0);
        Call both = (x, row) -> {
            int made = x.map(row, 2, 0, 0, 5);
            return x.ofRow(made, 1) + " " + x.ofRow(made, 2) + " " + x.ofRow(made, 3);
        };
        right("a map to a root with BEGIN 2 and PERIOD 118", "120 2 118", () -> rooted(0, 149, 5), both, 0);
        throwing("a map to a root with BEGIN 3 and PERIOD 118", STATE, () -> {
            Stepsdown x = rooted(0, 149, 5);
            x.map(0, 2, 0, 0, 5);
            return x;
        }, (x, row) -> x.map(row, 0, 1, 1, 2), 1);
        throwing("a map to a root with BEGIN 1 and PERIOD 120", STATE, () -> rooted(0, 109, 2),
                (x, row) -> x.map(row, 9, 0, 0, 8), 0);
        right("a machine tells it all the same", 5, () -> rooted(0, 109, 2), (x, row) -> x.machine(row, 9, 0, 0, 8, 0), 0);
        right("a machine tells a fraction LONG by 121", 2, () -> tall(120), (x, row) -> x.machine(row, 2, 1, 1, 0, 0), 0);
    }

    private static void removesAndUndoes() {
        right("remove the only row", 0, () -> house(1, 2), (x, row) -> x.remove(row), 0);
        right("remove the last of 8", 7, BoundsTest::eight, (x, row) -> x.remove(row), 7);
        throwing("remove an eighth of 7", PLACE, BoundsTest::seven, (x, row) -> x.remove(row), 7);
        throwing("undo with none", STATE, Stepsdown::new, (x, any) -> x.undo(), 0);
        right("undo with one", 0, () -> house(1, 2), (x, any) -> x.undo(), 0);
        right("undo with 8", 7, BoundsTest::eight, (x, any) -> x.undo(), 0);
        for (int steps = 0; steps <= 10; steps++) {
            int many = steps;
            right("steps back kept", Math.min(8, steps), () -> drafted(many), (x, any) -> x.house(2), steps);
            throwing("undo of all steps, and one more", STATE, () -> undone(drafted(many)), (x, any) -> x.undo(), steps);
            right("draft after undoing all", Math.max(0, steps - 8), () -> undone(drafted(many)), (x, any) -> x.house(1),
                    steps);
        }
    }

    private static Stepsdown undone(Stepsdown x) {
        for (int left = x.house(2); left > 0; left--) {
            due("undo", left - 1, x.undo());
        }
        return x;
    }

    /** Its terms are (1 1 1 4), so that term 999 is 4. */
    private static Stepsdown turned() {
        return rooted(2, 7, 3);
    }

    private static void termsAndPlaces() {
        bound("ofRow what", RANGE, BoundsTest::busy, 0, 5, (x, what) -> x.ofRow(1, what), 1, 1);
        bound("ofRow what of a fraction", RANGE, BoundsTest::busy, 0, 5, (x, what) -> x.ofRow(0, what), 0, -1);
        bound("term k", PLACE, BoundsTest::turned, 0, 999, (x, k) -> x.term(0, k, 10), 1, 4);
        bound("term by", RANGE, BoundsTest::busy, 1, 1000003, (x, by) -> x.term(2, 0, by), 0, 999999);
        bound("convergent k, P", PLACE, BoundsTest::busy, 0, 60, (x, k) -> x.convergent(1, k, false, 1000003), 2, 382205);
        bound("convergent k, Q", PLACE, BoundsTest::busy, 0, 60, (x, k) -> x.convergent(1, k, true, 1000003), 1, 547450);
        bound("convergent by, P", RANGE, BoundsTest::busy, 1, 1000003, (x, by) -> x.convergent(2, 0, false, by), 0, 999999);
        bound("convergent by, Q", RANGE, BoundsTest::busy, 1, 1000003, (x, by) -> x.convergent(0, 3, true, by), 0, 16);
        bound("convergentText k", PLACE, BoundsTest::busy, 0, 60, (x, k) -> x.convergentText(1, k), "2/1",
                "2524807950507510523/954287706463078274");
        bound("cross k", PLACE, BoundsTest::busy, 0, 60, (x, k) -> x.cross(1, k), -1, -1);
        bound("side k", PLACE, BoundsTest::busy, 0, 60, (x, k) -> x.side(1, k), 1, 1);
    }

    private static void lastTermsOfFractions() {
        bound("term k of a fraction", PLACE, BoundsTest::busy, 0, 3, (x, k) -> x.term(0, k, 10), 2, 3);
        bound("convergent k of a fraction", PLACE, BoundsTest::busy, 0, 3, (x, k) -> x.convergent(0, k, false, 100), 2, 45);
        bound("convergentText k of a fraction", PLACE, BoundsTest::busy, 0, 3, (x, k) -> x.convergentText(0, k), "2/1",
                "45/16");
        bound("cross k of a fraction", PLACE, BoundsTest::busy, 0, 3, (x, k) -> x.cross(0, k), -1, 1);
        bound("side k of a fraction", PLACE, BoundsTest::busy, 0, 3, (x, k) -> x.side(0, k), 1, 0);
        Supplier<Stepsdown> whole = () -> house(-7, 1);
        bound("term k of a whole number", PLACE, whole, 0, 0, (x, k) -> x.term(0, k, 10), 3, 3);
        bound("convergentText k of a whole number", PLACE, whole, 0, 0, (x, k) -> x.convergentText(0, k), "-7/1", "-7/1");
        bound("side k of a whole number", PLACE, whole, 0, 0, (x, k) -> x.side(0, k), 0, 0);
        bound("term k of a fraction LONG by 120", PLACE, () -> tall(120), 0, 119, (x, k) -> x.term(0, k, 10), 2, 4);
        bound("convergent k of a fraction LONG by 120", PLACE, () -> tall(120), 0, 60, (x, k) -> x.convergent(0, k, true, 1),
                0, 0);
        bound("side k of a fraction LONG by 61", PLACE, () -> tall(61), 0, 60, (x, k) -> x.side(0, k), 1, 0);
        bound("side k of a fraction LONG by 62", PLACE, () -> tall(62), 0, 60, (x, k) -> x.side(0, k), 1, 1);
    }

    private static void machines() {
        bound("machine a", RANGE, BoundsTest::busy, -9, 9, (x, a) -> x.machine(0, a, 0, 0, 1, 0), 1000003 - 26, 25);
        bound("machine b", RANGE, BoundsTest::busy, -9, 9, (x, b) -> x.machine(0, 1, b, 0, 1, 0), 1000003 - 7, 11);
        bound("machine c", RANGE, BoundsTest::busy, -9, 9, (x, c) -> x.machine(0, 0, 1, c, 0, 2), 24, 3);
        bound("machine d", RANGE, BoundsTest::busy, -9, 9, (x, d) -> x.machine(0, 0, 1, 1, d, 2), 5, 1);
        bound("machine k", RANGE, BoundsTest::busy, 0, 20, (x, k) -> x.machine(1, 1, 0, 0, 1, k), 2, 4);
        bound("machine k of a fraction", RANGE, BoundsTest::busy, 0, 20, (x, k) -> x.machine(0, 1, 0, 0, 1, k), 2, -1);
        right("machine, its last term", 3, BoundsTest::busy, (x, k) -> x.machine(0, 1, 0, 0, 1, k), 3);
        right("machine, one more", -1, BoundsTest::busy, (x, k) -> x.machine(0, 1, 0, 0, 1, k), 4);
        throwing("machine with a * d = b * c", RANGE, BoundsTest::busy, (x, a) -> x.machine(0, a, 4, 3, 6, 0), 2);
        throwing("machine with zeros", RANGE, BoundsTest::busy, (x, a) -> x.machine(0, a, 0, 0, 0, 0), 0);
        right("machine by 0", -9, BoundsTest::busy, (x, k) -> x.machine(2, 1, 0, 2, 7, k), 0);
        right("machine by 0", -9, BoundsTest::busy, (x, k) -> x.machine(2, 1, 0, 2, 7, k), 20);
        right("machine in a full house", 1, BoundsTest::eight, (x, row) -> x.machine(row, 1, 0, 0, 1, 0), 7);
    }

    private static void bests() {
        Supplier<Stepsdown> small = () -> house(1, 9999);
        bound("best most", RANGE, small, 1, 9999, (x, most) -> x.best(0, most, 0, true, 1000003), 1, 9999);
        bound("best most, kind 1", RANGE, small, 1, 9999, (x, most) -> x.best(0, most, 1, false, 1000003), 0, 1);
        bound("best kind", RANGE, BoundsTest::circle, 0, 1, (x, kind) -> x.best(0, 100, kind, false, 1000003), 311, 22);
        bound("best by", RANGE, BoundsTest::busy, 1, 1000003, (x, by) -> x.best(2, 1, 0, false, by), 0, 999999);
        bound("best by, b", RANGE, BoundsTest::busy, 1, 1000003, (x, by) -> x.best(1, 9999, 0, true, by), 0, 7873);
        bound("bestText most", RANGE, small, 1, 9999, (x, most) -> x.bestText(0, most, 0), "0/1", "1/9999");
        bound("bestText most of a root", RANGE, BoundsTest::busy, 1, 9999, (x, most) -> x.bestText(1, most, 1), "3/1",
                "20830/7873");
        bound("bestText kind", RANGE, BoundsTest::circle, 0, 1, (x, kind) -> x.bestText(0, 100, kind), "311/99", "22/7");
        Supplier<Stepsdown> far = () -> {
            Stepsdown x = house(37037, 1, -37037, 1);
            x.map(0, 9, 0, 0, 1);
            x.map(2, 3, 0, 0, 1);
            x.map(1, 9, 0, 0, 1);
            x.map(4, 3, 0, 0, 1);
            return x;
        };
        bound("isBest a", RANGE, far, -999999, 999999, (x, a) -> x.isBest(3, a, 1, 0), false, true);
        bound("isBest a, kind 1", RANGE, far, -999999, 999999, (x, a) -> x.isBest(5, a, 1, 1), true, false);
        bound("isBest b", RANGE, small, 1, 9999, (x, b) -> x.isBest(0, 1, b, 0), false, true);
        bound("isBest b", RANGE, small, 1, 9999, (x, b) -> x.isBest(0, 0, b, 1), true, false);
        bound("isBest kind", RANGE, BoundsTest::circle, 0, 1, (x, kind) -> x.isBest(0, 179, 57, kind), true, false);
    }

    private static void bestsByOne() {
        bound("bests most", RANGE, BoundsTest::busy, 1, 60, (x, most) -> x.bests(1, most, 0), 1, 9);
        bound("bests most, kind 1", RANGE, BoundsTest::busy, 1, 60, (x, most) -> x.bests(1, most, 1), 1, 7);
        bound("bests most of 1/60", RANGE, () -> house(1, 60), 1, 60, (x, most) -> x.bests(0, most, 1), 1, 2);
        right("bests most of 1/60", 1, () -> house(1, 60), (x, most) -> x.bests(0, most, 1), 59);
        bound("bests kind", RANGE, BoundsTest::busy, 0, 1, (x, kind) -> x.bests(1, 60, kind), 9, 7);
    }

    /** A number whose first terms are those of the circle's. */
    private static Stepsdown circle() {
        Stepsdown x = new Stepsdown();
        for (int term : new int[] {3, 7, 15, 1, 99}) {
            x.push(term);
        }
        x.finish();
        return x;
    }

    private static void comparisons() {
        bound("nearer a", RANGE, BoundsTest::busy, -999999, 999999, (x, a) -> x.nearer(2, a, 1, 999998, 1), -1, 1);
        bound("nearer c", RANGE, BoundsTest::busy, -999999, 999999, (x, c) -> x.nearer(2, 999998, 1, c, 1), 1, -1);
        bound("nearer b", RANGE, BoundsTest::busy, 0, 9999, (x, b) -> x.nearer(0, 1, b, 1, 1), -9, 1);
        bound("nearer d", RANGE, BoundsTest::busy, 0, 9999, (x, d) -> x.nearer(0, 1, 1, 1, d), -9, -1);
        right("nearer b", 0, BoundsTest::busy, (x, b) -> x.nearer(0, 1, b, 1, 1), 1);
        right("nearer d", 0, BoundsTest::busy, (x, d) -> x.nearer(0, 1, 1, 1, d), 1);
        right("nearer b and d", -9, BoundsTest::busy, (x, b) -> x.nearer(0, 1, b, 1, b), 0);
        bound("against a", RANGE, BoundsTest::busy, -999999, 999999, (x, a) -> x.against(1, a, 1), 1, -1);
        bound("against b", RANGE, BoundsTest::busy, 0, 9999, (x, b) -> x.against(1, 26455, b), -9, -1);
        right("against b", 1, BoundsTest::busy, (x, a) -> x.against(1, a, 9999), 26454);
        right("against b", -1, BoundsTest::busy, (x, b) -> x.against(1, 3, b), 1);
    }

    private static void gears() {
        bound("gears least", RANGE, BoundsTest::busy, 1, 40, (x, least) -> x.gears(1, least, 40, false), 37, 40);
        bound("gears least, b", RANGE, BoundsTest::busy, 1, 40, (x, least) -> x.gears(1, least, 40, true), 14, 40);
        bound("gears most", RANGE, BoundsTest::busy, 1, 40, (x, most) -> x.gears(1, 1, most, false), 1, 37);
        bound("gears most from 5 on", RANGE, BoundsTest::busy, 5, 40, (x, most) -> x.gears(1, 5, most, true), 5, 14);
        bound("gears most from 40 on", RANGE, BoundsTest::busy, 40, 40, (x, most) -> x.gears(1, 40, most, true), 40, 40);
        throwing("gears least from 1 with most 0", RANGE, BoundsTest::busy, (x, least) -> x.gears(1, least, 0, true), 0);
    }

    private static void fences() {
        Supplier<Stepsdown> late = () -> house(1, 9999, 9998, 9999);
        bound("post k", RANGE, BoundsTest::busy, 0, 9999, (x, k) -> x.post(1, k, 1000003), 0, 26454);
        bound("post k below 0", RANGE, BoundsTest::busy, 0, 9999, (x, k) -> x.post(2, k, 1000003), 0, 1000003 - 34997);
        bound("post by", RANGE, BoundsTest::busy, 1, 1000003, (x, by) -> x.post(2, 1, by), 0, 999999);
        right("post k ahead of the last", 0, late, (x, k) -> x.post(0, k, 10), 9998);
        right("post k, the last", 1, late, (x, k) -> x.post(0, k, 10), 9999);
        bound("step k", RANGE, late, 0, 9998, (x, k) -> x.step(0, k), 0, 1);
        bound("longSteps from", RANGE, late, 0, 9998, (x, from) -> x.longSteps(1, from, 9998), 9998, 1);
        bound("longSteps to", RANGE, late, 0, 9998, (x, to) -> x.longSteps(1, 0, to), 0, 9998);
        bound("longSteps to, from 5 on", RANGE, late, 5, 9998, (x, to) -> x.longSteps(1, 5, to), 1, 9994);
        bound("longSteps to, from 9998 on", RANGE, late, 9998, 9998, (x, to) -> x.longSteps(0, 9998, to), 1, 1);
        bound("fence from", RANGE, BoundsTest::busy, 0, 9900, (x, from) -> x.fence(1, from, 40),
                "0101101101101101011011011011011010110110", "1101101101101011011011011011010110110110");
        bound("fence many", RANGE, BoundsTest::busy, 1, 40, (x, many) -> x.fence(1, 0, many), "0",
                "0101101101101101011011011011011010110110");
    }

    private static void calendars() {
        Supplier<Stepsdown> late = () -> house(1, 9999);
        bound("calendar most", RANGE, late, 1, 9999, (x, most) -> x.calendar(0, most), 1, 9999);
        bound("ofCalendar what", RANGE, BoundsTest::busy, 0, 2, (x, what) -> x.ofCalendar(what), 2, 16);
        right("ofCalendar what", 13, BoundsTest::busy, (x, what) -> x.ofCalendar(what), 1);
        for (int each = 0; each <= 2; each++) {
            throwing("ofCalendar without one", STATE, () -> house(1, 2), (x, what) -> x.ofCalendar(what), each);
        }
        throwing("isLeap without a calendar", STATE, () -> house(1, 2), (x, year) -> x.isLeap(year), 0);
        throwing("days without a calendar", STATE, () -> house(1, 2), (x, year) -> x.days(year), 9999);
        throwing("yearOf without a calendar", STATE, () -> house(1, 2), (x, day) -> x.yearOf(day), 0);
        throwing("drift without a calendar", STATE, () -> house(1, 2), (x, year) -> x.drift(year), 0);
    }

    private static Stepsdown yearly(int over, int under) {
        Stepsdown x = house(5, 2);
        x.calendar(0, 9);
        x.fraction(over, under);
        return x;
    }

    private static void calendarsByTermZero() {
        Call made = (x, most) -> x.calendar(1, most) + " " + x.ofCalendar(0) + " " + x.ofCalendar(1) + " " + x.ofCalendar(2);
        throwing("calendar with TERM 0 -1", STATE, () -> yearly(-1, 1), made, 9);
        throwing("calendar with TERM 0 -1, a little below 0", STATE, () -> yearly(-1, 9999), made, 9);
        right("calendar with TERM 0 0", "1 0 0 1", () -> yearly(0, 1), made, 9);
        right("calendar with TERM 0 0, a little above 0", "1 0 0 1", () -> yearly(1, 9999), made, 9);
        right("calendar with TERM 0 9999", "1 9999 0 1", () -> yearly(9999, 1), made, 9);
        right("calendar with TERM 0 9999, a little below 10000", "9 9999 8 9", () -> yearly(89999, 9), made, 9);
        throwing("calendar with TERM 0 10000", STATE, () -> yearly(10000, 1), made, 9);
        throwing("calendar with TERM 0 10000, a little above", STATE, () -> yearly(90001, 9), made, 9);
        throwing("calendar with TERM 0 -10000", STATE, () -> yearly(-10000, 1), made, 9);
        throwing("calendar of a root below 0", STATE, () -> {
            Stepsdown x = yearly(1, 1);
            x.root(-2, 2, 1);
            return x;
        }, (x, most) -> x.calendar(2, most), 9);
        right("calendar of a root above 0", 5, () -> {
            Stepsdown x = yearly(1, 1);
            x.root(-1, 2, 1);
            return x;
        }, (x, most) -> x.calendar(2, most), 9);
    }

    private static void years() {
        bound("isLeap year", RANGE, BoundsTest::busy, 0, 9999, (x, year) -> x.isLeap(year), false, true);
        bound("days year", RANGE, BoundsTest::busy, 0, 9999, (x, year) -> x.days(year), 0, 28122);
        bound("drift year", RANGE, BoundsTest::busy, 0, 9999, (x, year) -> x.drift(year), 0, -19);
        throwing("yearOf day", RANGE, BoundsTest::busy, (x, day) -> x.yearOf(day), -1);
        throwing("yearOf day", RANGE, BoundsTest::busy, (x, day) -> x.yearOf(day), Integer.MIN_VALUE);
        int[][] days = {{0, 0}, {1, 0}, {2, 1}, {4, 1}, {5, 2}, {28121, 9998}, {28122, 9999}, {28124, 9999}, {28125, -1},
            {Integer.MAX_VALUE, -1}};
        for (int[] pair : days) {
            right("yearOf day", pair[1], BoundsTest::busy, (x, day) -> x.yearOf(day), pair[0]);
        }
    }

    private static void squareRoots() {
        int[][] known = {{Integer.MIN_VALUE, -9}, {-1, -9}, {0, 0}, {1, 1}, {2, 1}, {3, 1}, {4, 2}, {8, 2}, {9, 3},
            {2147395599, 46339}, {2147395600, 46340}, {Integer.MAX_VALUE, 46340}};
        for (int[] pair : known) {
            right("squareRoot", pair[1], BoundsTest::busy, (x, n) -> x.squareRoot(n), pair[0]);
        }
    }

    /** The bounds of d and n, which answer, answerText and answers have alike. */
    private static void equations() {
        bound("answer d", RANGE, BoundsTest::busy, 2, 199, (x, d) -> x.answer(d, 1, 0, true, 1000003), 2, 76640);
        bound("answerText d", RANGE, BoundsTest::busy, 2, 199, (x, d) -> x.answerText(d, 1, 0), "3,2",
                "16266196520,1153080099");
        bound("answers d", RANGE, BoundsTest::busy, 2, 199, (x, d) -> x.answers(d, 1, 10), 13, 1);
        bound("rootPeriod d", RANGE, BoundsTest::busy, 2, 199, (x, d) -> x.rootPeriod(d), 1, 20);
        bound("answer n", RANGE, BoundsTest::busy, -3, 3, (x, n) -> x.answer(13, n, 0, false, 10), 7, 4);
        bound("answerText n", RANGE, BoundsTest::busy, -3, 3, (x, n) -> x.answerText(13, n, 0), "7,2", "4,1");
        bound("answers n", RANGE, BoundsTest::busy, -3, 3, (x, n) -> x.answers(13, n, 2), 2, 2);
        bound("answerText n of 2", RANGE, BoundsTest::busy, -1, 1, (x, n) -> x.answerText(2, n, 0), "1,1", "3,2");
        bound("answerText n of 10", RANGE, BoundsTest::busy, -3, 3, (x, n) -> x.answerText(10, n, 0), "", "");
        bound("answerText n of 199", RANGE, BoundsTest::busy, -14, 14, (x, n) -> x.answerText(199, n, 0), "", "");
        Call[] calls = {(x, n) -> x.answer(199, n, 0, false, 10), (x, n) -> x.answerText(199, n, 0),
            (x, n) -> x.answers(199, n, 1)};
        for (Call call : calls) {
            throwing("n", RANGE, BoundsTest::busy, call, 0);
            throwing("n whose square wraps around to 0", RANGE, BoundsTest::busy, call, 65536);
            throwing("n whose square wraps around to 1", RANGE, BoundsTest::busy, call, 1 << 31 | 1);
        }
        Call[] squares = {(x, d) -> x.answer(d, 1, 0, false, 10), (x, d) -> x.answerText(d, 1, 0), (x, d) -> x.answers(d, 1, 1),
            (x, d) -> x.rootPeriod(d)};
        for (Call call : squares) {
            for (int root = 0; root <= 15; root++) {
                throwing("d, a square", RANGE, BoundsTest::busy, call, root * root);
            }
        }
    }

    private static void answers() {
        bound("answer k, x", RANGE, BoundsTest::busy, 0, 8, (x, k) -> x.answer(7, 1, k, false, 1000003), 8, 773729);
        bound("answer k, y", RANGE, BoundsTest::busy, 0, 8, (x, k) -> x.answer(199, 1, k, true, 1000003), 76640, 849663);
        bound("answer k without any", RANGE, BoundsTest::busy, 0, 8, (x, k) -> x.answer(7, -1, k, true, 10), -1, -1);
        bound("answer by", RANGE, BoundsTest::busy, 1, 1000003, (x, by) -> x.answer(199, 1, 0, false, by), 0, 147722);
        bound("answerText k", RANGE, BoundsTest::busy, 0, 8, (x, k) -> x.answerText(7, 1, k), "8,3",
                "33165873224,12535521795");
        bound("answerText k without any", RANGE, BoundsTest::busy, 0, 8, (x, k) -> x.answerText(7, -1, k), "", "");
        bound("answers digits", RANGE, BoundsTest::busy, 1, 20, (x, digits) -> x.answers(2, 1, digits), 1, 26);
        bound("answers digits without any", RANGE, BoundsTest::busy, 1, 20, (x, digits) -> x.answers(7, -1, digits), 0, 0);
        right("answers digits, one less than y has", 0, BoundsTest::busy, (x, digits) -> x.answers(199, 1, digits), 9);
        right("answers digits, as many as y has", 1, BoundsTest::busy, (x, digits) -> x.answers(199, 1, digits), 10);
    }

    private static void houses() {
        bound("house what", RANGE, BoundsTest::busy, 0, 4, (x, what) -> x.house(what), 3, 1);
        int[] want = {3, 2, 8, 1, 1};
        for (int each = 0; each <= 4; each++) {
            right("house what", want[each], BoundsTest::busy, (x, what) -> x.house(what), each);
            right("house what of a new object", 0, Stepsdown::new, (x, what) -> x.house(what), each);
        }
    }
}
