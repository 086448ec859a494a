/** Promise by promise: ordinary inputs, the edges that the document names, and wrong inputs. */
public final class PromisesTest {
    private static final int LEAST = Integer.MIN_VALUE;
    private static final int MOST = Integer.MAX_VALUE;
    private static final String PLACE = "IndexOutOfBoundsException";
    private static final String RANGE = "IllegalArgumentException";
    private static final String STATE = "IllegalStateException";
    private static int wrong = 0;
    private static int asked = 0;

    /** A call that may throw. */
    private interface Call {
        Object make();
    }

    public static void main(String[] args) {
        making();
        terms();
        convergents();
        bests();
        comparisons();
        fences();
        calendars();
        answers();
        all();
        System.out.println(asked + " questions, " + wrong + " wrong answers");
        System.exit(wrong == 0 ? 0 : 1);
    }

    private static void due(String what, Object want, Object got) {
        asked++;
        if (!want.equals(got)) {
            wrong++;
            System.out.println(what + " answered " + got + ", due is " + want);
        }
    }

    private static void fails(String what, String name, Call call) {
        String got = "nothing";
        try {
            call.make();
        } catch (RuntimeException e) {
            got = e.getClass().getSimpleName();
        }
        due(what + " throws", name, got);
    }

    /** Nothing of the object may have changed. */
    private static void failsAlone(String what, String name, Stepsdown x, Call call) {
        long before = x.digest();
        fails(what, name, call);
        due(what + " left the object", before, x.digest());
    }

    private static Stepsdown house(int... pairs) {
        Stepsdown x = new Stepsdown();
        for (int at = 0; at < pairs.length; at += 2) {
            x.fraction(pairs[at], pairs[at + 1]);
        }
        return x;
    }

    private static Stepsdown roots(int... triples) {
        Stepsdown x = new Stepsdown();
        for (int at = 0; at < triples.length; at += 3) {
            x.root(triples[at], triples[at + 1], triples[at + 2]);
        }
        return x;
    }

    private static Stepsdown drafted(int... terms) {
        Stepsdown x = new Stepsdown();
        for (int term : terms) {
            x.push(term);
        }
        return x;
    }

    private static Stepsdown full() {
        return house(1, 2, 1, 3, 1, 4, 1, 5, 1, 6, 1, 7, 1, 8, 1, 9);
    }

    private static String rows(Stepsdown x) {
        StringBuilder text = new StringBuilder();
        for (int row = 0; row < x.house(0); row++) {
            text.append(x.terms(row)).append(';');
        }
        return text.toString();
    }

    private static void making() {
        promise1();
        promise2();
        promise3();
        promise4();
        promise5();
        promise6();
        promise7();
        promise7Refusals();
        promise7Long();
        promise8();
        promise9();
        promise9Kinds();
        promise10();
    }

    private static void promise1() {
        Stepsdown x = new Stepsdown();
        for (int what = 0; what <= 4; what++) {
            due("house of a new object " + what, 0, x.house(what));
        }
        fails("terms of a new object", PLACE, () -> x.terms(0));
        fails("draft of a new object", PLACE, () -> x.draft(0));
        fails("calendar of a new object", STATE, () -> x.ofCalendar(0));
    }

    private static void promise2() {
        Stepsdown x = new Stepsdown();
        due("fraction 45/16", 0, x.fraction(45, 16));
        due("fraction -7/2", 1, x.fraction(-7, 2));
        due("fraction 99999/-9999", 2, x.fraction(99999, -9999));
        due("fraction 0/-3", 3, x.fraction(0, -3));
        due("fraction 90/32", 4, x.fraction(90, 32));
        due("rows", "2 1 4 3;-4 2;-11 1 1110;0;2 1 4 3;", rows(x));
        due("fraction 1/0", -9, x.fraction(1, 0));
        due("rows after 1/0", 5, x.house(0));
        due("undo after 1/0", 5, x.house(2));
        failsAlone("fraction p above", RANGE, x, () -> x.fraction(100000, 1));
        failsAlone("fraction p below", RANGE, x, () -> x.fraction(-100000, 1));
        failsAlone("fraction q above", RANGE, x, () -> x.fraction(1, 10000));
        failsAlone("fraction q below", RANGE, x, () -> x.fraction(1, -10000));
        fails("fraction far above", RANGE, () -> x.fraction(MOST, LEAST));
        due("both below 0", "10 1111;-1 9999;-99999;", rows(house(-99999, -9999, 9998, -9999, 99999, -1)));
        Stepsdown many = full();
        failsAlone("a ninth fraction", STATE, many, () -> many.fraction(1, 2));
        failsAlone("a ninth fraction, q 0", STATE, many, () -> many.fraction(1, 0));
        failsAlone("a ninth fraction out of range", RANGE, many, () -> many.fraction(100000, 0));
    }

    private static void promise3() {
        Stepsdown x = roots(0, 2, 1, 1, 5, 2, 1, 5, -2, 0, 7, 1, -99, 199, -6, 3, 8, 1);
        due("terms of roots 0", "1 (2)", x.terms(0));
        due("terms of roots 1", "(1)", x.terms(1));
        due("terms of roots 2", "-2 2 (1)", x.terms(2));
        due("terms of roots 3", "2 (1 1 1 4)", x.terms(3));
        due("terms of roots 4", "14 6 (1 2 1 1 7 8 3 84 3 8 7 1 1 2 1 5 1 3 1 5)", x.terms(4));
        due("terms of roots 5", "5 (1 4)", x.terms(5));
        due("root below", -9, x.root(0, -1, 1));
        due("root over 0", -9, x.root(0, 2, 0));
        due("root below over 0", -9, x.root(99, -9, 0));
        due("rows after refusals", 6, x.house(0));
        failsAlone("root p above", RANGE, x, () -> x.root(100, 2, 1));
        failsAlone("root p below", RANGE, x, () -> x.root(-100, 2, 1));
        failsAlone("root d above", RANGE, x, () -> x.root(0, 200, 1));
        failsAlone("root d below", RANGE, x, () -> x.root(0, -10, 1));
        failsAlone("root q above", RANGE, x, () -> x.root(0, 2, 7));
        failsAlone("root q below", RANGE, x, () -> x.root(0, 2, -7));
        for (int root = 0; root <= 14; root++) {
            int square = root * root;
            fails("root of " + square, RANGE, () -> x.root(0, square, 1));
        }
        fails("root of a square over 0", RANGE, () -> x.root(0, 0, 0));
        Stepsdown many = full();
        failsAlone("a ninth root", STATE, many, () -> many.root(0, 2, 1));
        failsAlone("a ninth root that is not", STATE, many, () -> many.root(0, -1, 1));
        failsAlone("a ninth root over 0", STATE, many, () -> many.root(0, 2, 0));
        failsAlone("a ninth root of a square", RANGE, many, () -> many.root(0, 4, 1));
        allRoots();
    }

    /** Every root that the face takes is made or refused as too long; its terms are those of its own convergents. */
    private static void allRoots() {
        int made = 0;
        Stepsdown x = new Stepsdown();
        for (int d = 2; d < 200; d++) {
            int root = x.squareRoot(d);
            if (root * root != d) {
                x = new Stepsdown();
                made += x.root(d % 99, d, 1 + d % 6) == 0 && x.ofRow(0, 1) <= 120 && x.isSound() ? 1 : 0;
            }
        }
        due("roots of 2 to 199", 185, made);
    }

    private static void promise4() {
        Stepsdown x = new Stepsdown();
        failsAlone("push -100", RANGE, x, () -> x.push(-100));
        failsAlone("push 100", RANGE, x, () -> x.push(100));
        due("push -99", 1, x.push(-99));
        failsAlone("push a later 0", RANGE, x, () -> x.push(0));
        failsAlone("push a later -1", RANGE, x, () -> x.push(-1));
        failsAlone("push a later 100", RANGE, x, () -> x.push(100));
        for (int many = 2; many <= 24; many++) {
            due("push", many, x.push(many % 2 == 0 ? 1 : 99));
        }
        failsAlone("push a 25th", STATE, x, () -> x.push(1));
        failsAlone("push a 25th 0", RANGE, x, () -> x.push(0));
        Stepsdown empty = new Stepsdown();
        due("push 0 first", 1, empty.push(0));
        due("pop it", 0, empty.pop());
        due("push 99 first", 1, empty.push(99));
    }

    private static void promise5() {
        Stepsdown x = drafted(-5, 3, 7);
        due("pop", 7, x.pop());
        due("pop", 3, x.pop());
        due("pop", -5, x.pop());
        due("undo with pops", 6, x.house(2));
        due("pop of none", -9, x.pop());
        due("undo after it", 6, x.house(2));
        due("undo a pop", 5, x.undo());
        due("the draft then", -5, x.draft(0));
    }

    private static void promise6() {
        Stepsdown x = drafted(2, 1, 4, 3);
        due("finish", 0, x.finish());
        due("finished", "2 1 4 3", x.terms(0));
        due("draft after finish", 0, x.house(1));
        failsAlone("finish of none", STATE, x, x::finish);
        x.push(-7);
        due("finish one", 1, x.finish());
        due("finished one", "-7", x.terms(1));
        x.push(3);
        x.push(1);
        x.finish();
        due("a last term 1", "4", x.terms(2));
        x.push(-1);
        x.push(1);
        x.push(1);
        x.push(1);
        x.finish();
        due("last terms 1", "-1 1 2", x.terms(3));
        due("undo a finish", 7, x.undo());
        due("rows then", 3, x.house(0));
        due("draft then", 4, x.house(1));
        due("draft term then", -1, x.draft(0));
        Stepsdown many = full();
        failsAlone("finish with 8 and none", STATE, many, many::finish);
        many.push(1);
        failsAlone("finish with 8", STATE, many, many::finish);
        Stepsdown great = drafted(99, 99, 99, 99, 99, 99, 99, 99, 99, 99, 99, 99, 99, 99, 99, 99, 99, 99, 99, 99, 99, 99, 99,
                99);
        great.finish();
        due("a great draft", 24, great.ofRow(0, 1));
        due("its last term", 99, great.term(0, 23, 1000));
        fails("no more terms", PLACE, () -> great.term(0, 24, 1000));
    }

    private static void promise7() {
        Stepsdown x = house(3, 2);
        due("map to 1/x", 1, x.map(0, 0, 1, 1, 0));
        due("1/x", "0 1 2", x.terms(1));
        due("the other stays", "1 2", x.terms(0));
        x.map(0, -3, 1, 2, 5);
        due("(-3x+1)/(2x+5)", "-1 1 1 3 2", x.terms(2));
        Stepsdown r = roots(0, 2, 1);
        r.map(0, 1, 1, 0, 1);
        due("x+1", "(2)", r.terms(1));
        r.map(1, -1, 0, 0, 1);
        due("-x", "-3 1 1 (2)", r.terms(2));
        r.map(0, 0, 1, 1, 0);
        due("1/x", "0 1 (2)", r.terms(3));
        r.map(0, 0, -1, 1, 0);
        due("-1/x", "-1 3 (2)", r.terms(4));
        r.map(0, 9, -9, 8, 7);
        due("(9x-9)/(8x+7) is sound", true, r.isSound());
        r.map(0, 3, 0, 0, 1);
        due("3x is the root of 18", "4 (4 8)", r.terms(6));
        failsAlone("map of no row", PLACE, x, () -> x.map(3, 1, 0, 0, 1));
        fails("map of a row below 0, all wrong", PLACE, () -> x.map(-1, 10, 10, 10, 10));
        failsAlone("map without a turn", RANGE, x, () -> x.map(0, 2, 4, 1, 2));
        failsAlone("map of zeros", RANGE, x, () -> x.map(0, 0, 0, 0, 0));
        for (int at = 0; at < 4; at++) {
            int[] more = {1, 0, 0, 1};
            int[] less = {1, 0, 0, 1};
            more[at] = 10;
            less[at] = -10;
            fails("map above " + at, RANGE, () -> x.map(0, more[0], more[1], more[2], more[3]));
            fails("map below " + at, RANGE, () -> x.map(0, less[0], less[1], less[2], less[3]));
        }
    }

    private static void promise7Refusals() {
        Stepsdown x = house(3, 2, -1, 4);
        due("map by 0", -9, x.map(0, 1, 0, 2, -3));
        due("map by 0, too", -9, x.map(1, 5, 1, 4, 1));
        due("rows then", 2, x.house(0));
        due("undo then", 2, x.house(2));
        Stepsdown many = full();
        failsAlone("map with 8", STATE, many, () -> many.map(0, 1, 0, 0, 1));
        failsAlone("map with 8, by 0", STATE, many, () -> many.map(0, 1, 0, 2, -1));
        failsAlone("map with 8, without a turn", RANGE, many, () -> many.map(0, 1, 2, 1, 2));
        failsAlone("map with 8, no row", PLACE, many, () -> many.map(8, 1, 2, 1, 2));
        Stepsdown tall = roots(0, 199, 1);
        due("5x", 1, tall.map(0, 5, 0, 0, 1));
        long before = tall.digest();
        int refused = 0;
        for (int by = 2; by <= 9; by++) {
            int factor = by;
            try {
                tall.map(1, factor, 0, 0, 1);
                tall.undo();
            } catch (IllegalStateException e) {
                refused++;
            }
        }
        due("some are refused as too LONG", true, refused > 0);
        due("and nothing has changed", before, tall.digest());
        due("but a machine tells them", true, tall.machine(1, 9, 0, 0, 1, 20) > 0);
    }

    /** A term 3 ahead of the others, as often as is asked for; the row stays number 0. */
    private static void lengthen(Stepsdown x, int many) {
        for (int more = 0; more < many; more++) {
            due("a term ahead", 1, x.map(0, 3, 1, 1, 0));
            x.remove(0);
        }
    }

    private static void promise7Long() {
        Stepsdown x = drafted(2, 2, 2, 2, 2, 2, 2, 2, 2, 2, 2, 2, 2, 2, 2, 2, 2, 2, 2, 2, 2, 2, 2, 2);
        x.finish();
        lengthen(x, 96);
        due("a fraction LONG by 120", 120, x.ofRow(0, 1));
        failsAlone("a fraction LONG by 121", STATE, x, () -> x.map(0, 3, 1, 1, 0));
        due("its machine's term 0", 3, x.machine(0, 3, 1, 1, 0, 0));
        due("its term 119", 2, x.term(0, 119, 10));
        fails("its term 120", PLACE, () -> x.term(0, 120, 10));
        due("a shorter one", 1, x.map(0, 0, 1, 1, -3));
        due("it is LONG by", 119, x.ofRow(1, 1));
        Stepsdown r = roots(0, 2, 1);
        lengthen(r, 118);
        due("a root LONG by 120", 120, r.ofRow(0, 1));
        due("its begin", 119, r.ofRow(0, 2));
        failsAlone("a root LONG by 121", STATE, r, () -> r.map(0, 3, 1, 1, 0));
        due("its machine's term 20", 3, r.machine(0, 3, 1, 1, 0, 20));
        Stepsdown seven = roots(0, 7, 1);
        lengthen(seven, 115);
        due("a root of period 4, LONG by 120", 120, seven.ofRow(0, 1));
        failsAlone("LONG by 121", STATE, seven, () -> seven.map(0, 3, 1, 1, 0));
        due("it is sound", true, seven.isSound());
    }

    private static void promise8() {
        Stepsdown x = house(1, 2, 1, 3, 1, 4);
        due("remove the middle", 2, x.remove(1));
        due("rows then", "0 2;0 4;", rows(x));
        failsAlone("remove what is not there", PLACE, x, () -> x.remove(2));
        failsAlone("remove below 0", PLACE, x, () -> x.remove(-1));
        due("remove the first", 1, x.remove(0));
        due("remove the last", 0, x.remove(0));
        fails("remove of none", PLACE, () -> x.remove(0));
        Stepsdown many = full();
        due("remove one of 8", 7, many.remove(7));
        due("another one", 7, many.fraction(5, 1));
        due("remove the first of 8", 7, many.remove(0));
        due("rows of 7", "0 3;0 4;0 5;0 6;0 7;0 8;5;", rows(many));
    }

    private static void promise9() {
        Stepsdown x = new Stepsdown();
        failsAlone("undo of none", STATE, x, x::undo);
        x.fraction(1, 2);
        x.push(4);
        x.fraction(7, 3);
        x.calendar(1, 10);
        x.remove(0);
        due("undo remove", 4, x.undo());
        due("rows then", "0 2;2 3;", rows(x));
        due("calendar then", 1, x.house(4));
        due("undo calendar", 3, x.undo());
        due("calendar then", 0, x.house(4));
        due("undo fraction", 2, x.undo());
        due("draft then", 1, x.house(1));
        due("undo push", 1, x.undo());
        due("draft then", 0, x.house(1));
        due("undo fraction", 0, x.undo());
        due("rows then", 0, x.house(0));
        fails("undo of all", STATE, x::undo);
        Stepsdown many = new Stepsdown();
        for (int term = 1; term <= 12; term++) {
            many.push(term);
        }
        due("at most 8", 8, many.house(2));
        for (int left = 7; left >= 0; left--) {
            due("undo", left, many.undo());
        }
        fails("undo of a ninth", STATE, many::undo);
        due("the draft then", 4, many.house(1));
    }

    private static void promise9Kinds() {
        Stepsdown x = house(5, 2, 7, 3);
        x.calendar(0, 9);
        x.calendar(1, 9);
        due("calendar of 7/3", 3, x.ofCalendar(2));
        due("undo it", 3, x.undo());
        due("calendar of 5/2", 2, x.ofCalendar(2));
        x.map(0, 0, 1, 1, 0);
        due("undo a map", 3, x.undo());
        due("rows then", "2 2;2 3;", rows(x));
        x.root(0, 2, 1);
        due("undo a root", 3, x.undo());
        x.fraction(1, 0);
        x.root(0, -2, 1);
        x.pop();
        x.map(0, 1, 0, 2, -5);
        due("refused ones are no steps", 3, x.house(2));
        x.knock();
        x.isSound();
        due("nor are questions", 3, x.house(2));
        due("knocks stay", 2, x.undo());
        due("knocks then", 1, x.house(3));
        due("undone, then another step", 2, x.fraction(9, 4));
        due("how many", 3, x.house(2));
        due("undo it", 2, x.undo());
        due("rows then", "2 2;2 3;", rows(x));
    }

    private static void promise10() {
        Stepsdown x = new Stepsdown();
        due("knock", 1, x.knock());
        due("knock", 2, x.knock());
        x.fraction(1, 2);
        x.undo();
        due("knock after an undo", 3, x.knock());
        due("knocks", 3, x.house(3));
    }

    private static void terms() {
        promise11();
        promise12();
        promise13();
        promise14();
        promise15();
        promise16();
    }

    private static void ofRow(Stepsdown x, int row, int... want) {
        for (int what = 0; what <= 5; what++) {
            due("ofRow " + row + " " + what, want[what], x.ofRow(row, what));
        }
    }

    private static void promise11() {
        Stepsdown x = house(45, 16, 0, 3, -1, 2, 1, 2);
        ofRow(x, 0, 0, 4, -1, -1, 1, -1);
        ofRow(x, 1, 0, 1, -1, -1, 0, -1);
        ofRow(x, 2, 0, 2, -1, -1, -1, -1);
        ofRow(x, 3, 0, 2, -1, -1, 1, -1);
        x.root(0, 2, 1);
        x.root(1, 5, 2);
        x.root(0, 7, -1);
        x.root(1, 7, 3);
        ofRow(x, 4, 1, 2, 1, 1, 1, 1);
        ofRow(x, 5, 1, 1, 0, 1, 1, 1);
        due("terms of -root of 7", "-3 2 (1 4 1 1)", x.terms(6));
        ofRow(x, 6, 1, 6, 2, 4, -1, 1);
        due("terms of (1+root of 7)/3", "(1 4 1 1)", x.terms(7));
        ofRow(x, 7, 1, 4, 0, 4, 1, 1);
        Stepsdown two = roots(1, 3, 1, 0, 7, 1, 0, 61, 1);
        due("terms of 1+root of 3", "(2 1)", two.terms(0));
        due("one of two reads both ways", 1, two.ofRow(0, 5));
        due("three of four read both ways", 1, two.ofRow(1, 5));
        due("ten of eleven read both ways", 1, two.ofRow(2, 5));
        due("period of the root of 61", 11, two.ofRow(2, 3));
        failsAlone("ofRow of no row", PLACE, x, () -> x.ofRow(8, 6));
        failsAlone("ofRow below", RANGE, x, () -> x.ofRow(0, -1));
        failsAlone("ofRow above", RANGE, x, () -> x.ofRow(0, 6));
    }

    private static void promise12() {
        Stepsdown x = house(-45, 16);
        x.root(0, 7, 1);
        due("term 0 by 10", 7, x.term(0, 0, 10));
        due("term 0 by 1", 0, x.term(0, 0, 1));
        due("term 0 by 1000003", 1000000, x.term(0, 0, 1000003));
        due("term 1", 5, x.term(0, 1, 1000003));
        due("term 2 by 2", 1, x.term(0, 2, 2));
        due("term 0 by 3", 0, x.term(0, 0, 3));
        fails("no term 3", PLACE, () -> x.term(0, 3, 10));
        due("term 999", 1, x.term(1, 999, 10));
        due("term 996", 4, x.term(1, 996, 10));
        due("term 4", 4, x.term(1, 4, 10));
        due("term 5", 1, x.term(1, 5, 10));
        failsAlone("term 1000", PLACE, x, () -> x.term(1, 1000, 10));
        failsAlone("term -1", PLACE, x, () -> x.term(1, -1, 0));
        failsAlone("term of no row", PLACE, x, () -> x.term(2, 0, 0));
        failsAlone("term by 0", RANGE, x, () -> x.term(1, 0, 0));
        failsAlone("term by 1000004", RANGE, x, () -> x.term(1, 0, 1000004));
        failsAlone("term by below 0", RANGE, x, () -> x.term(1, 0, LEAST));
        failsAlone("no term, by 0", PLACE, x, () -> x.term(0, 3, 0));
    }

    private static void promise13() {
        Stepsdown x = house(-22, 7, 5, 1, -5, 1, 1, 9999, 0, 1);
        due("terms", "-4 1 6;5;-5;0 9999;0;", rows(x));
        x.root(0, 46, 1);
        x.root(-5, 3, 2);
        due("terms of the root of 46", "6 (1 3 1 1 2 6 2 1 1 3 1 12)", x.terms(5));
        due("terms of (-5+root of 3)/2", "-2 (2 1)", x.terms(6));
        failsAlone("terms of no row", PLACE, x, () -> x.terms(7));
        failsAlone("terms below 0", PLACE, x, () -> x.terms(LEAST));
        Stepsdown great = house(9, 1);
        for (int many = 0; many < 40; many++) {
            great.map(0, 9, 0, 0, 1);
            great.remove(0);
        }
        due("a great term", java.math.BigInteger.valueOf(9).pow(41).toString(), great.terms(0));
        great.map(0, -1, 0, 0, 1);
        due("a great term below 0", "-" + java.math.BigInteger.valueOf(9).pow(41), great.terms(1));
    }

    private static void promise14() {
        Stepsdown x = drafted(-5, 3, 7);
        due("draft 0", -5, x.draft(0));
        due("draft 2", 7, x.draft(2));
        failsAlone("draft 3", PLACE, x, () -> x.draft(3));
        failsAlone("draft -1", PLACE, x, () -> x.draft(-1));
        fails("draft far", PLACE, () -> x.draft(MOST));
        x.pop();
        fails("draft popped", PLACE, () -> x.draft(2));
    }

    private static void promise15() {
        Stepsdown x = roots(0, 2, 1, 7, 2, 1, 0, 3, 1, 0, 8, 1, 0, 7, 1);
        due("root of 2 and 7 more", true, x.sameTail(0, 1));
        due("roots of 2 and 3", false, x.sameTail(0, 2));
        due("roots of 3 and 8", false, x.sameTail(2, 3));
        due("with itself", true, x.sameTail(2, 2));
        x.map(4, 3, 1, 2, 1);
        due("a map that turns 1", true, x.sameTail(4, 5));
        x.fraction(1, 2);
        x.fraction(-7, 9);
        due("fractions", true, x.sameTail(6, 7));
        due("a root and a fraction", false, x.sameTail(0, 6));
        due("a fraction and a root", false, x.sameTail(6, 0));
        failsAlone("no row", PLACE, x, () -> x.sameTail(8, 0));
        failsAlone("no other row", PLACE, x, () -> x.sameTail(0, 8));
        failsAlone("below 0", PLACE, x, () -> x.sameTail(0, -1));
    }

    private static void promise16() {
        Stepsdown x = house(45, 16);
        x.root(0, 2, 1);
        due("its own term 3", 3, x.machine(0, 1, 0, 0, 1, 3));
        due("its own term 4", -1, x.machine(0, 1, 0, 0, 1, 4));
        due("-x term 0", 1000000, x.machine(0, -1, 0, 0, 1, 0));
        Stepsdown y = house(3, 2);
        due("by 0", -9, y.machine(0, 1, 0, 2, -3, 0));
        due("by 0, too", -9, y.machine(0, 1, 0, 4, -6, 20));
        due("3x of the root of 2", 8, x.machine(1, 3, 0, 0, 1, 2));
        due("term 20", 8, x.machine(1, 3, 0, 0, 1, 20));
        due("rows then", 2, x.house(0));
        due("undo then", 2, x.house(2));
        failsAlone("machine of no row", PLACE, x, () -> x.machine(2, 0, 0, 0, 0, 21));
        failsAlone("machine without a turn", RANGE, x, () -> x.machine(0, 1, 1, 1, 1, 0));
        failsAlone("machine 21", RANGE, x, () -> x.machine(0, 1, 0, 0, 1, 21));
        failsAlone("machine -1", RANGE, x, () -> x.machine(0, 1, 0, 0, 1, -1));
        failsAlone("machine a 10", RANGE, x, () -> x.machine(0, 10, 0, 0, 1, 0));
        failsAlone("machine b -10", RANGE, x, () -> x.machine(0, 1, -10, 0, 1, 0));
        failsAlone("machine c 10", RANGE, x, () -> x.machine(0, 1, 0, 10, 1, 0));
        failsAlone("machine d -10", RANGE, x, () -> x.machine(0, 1, 0, 0, -10, 0));
        Stepsdown eight = full();
        due("with 8 rows", 0, eight.machine(0, 1, 0, 0, 1, 0));
    }

    private static void convergents() {
        promise17();
        promise18();
        promise19();
        promise20();
    }

    private static void reach(String what, int last, Stepsdown x, java.util.function.IntFunction<Object> call) {
        failsAlone(what + " below 0", PLACE, x, () -> call.apply(-1));
        failsAlone(what + " 61", PLACE, x, () -> call.apply(61));
        fails(what + " far", PLACE, () -> call.apply(MOST));
        call.apply(last);
    }

    private static void promise17() {
        Stepsdown x = house(-22, 7);
        x.root(0, 2, 1);
        int[] over = {-4, -3, -22};
        int[] under = {1, 1, 7};
        for (int k = 0; k < 3; k++) {
            due("P" + k, Math.floorMod(over[k], 10), x.convergent(0, k, false, 10));
            due("Q" + k, under[k], x.convergent(0, k, true, 10));
        }
        due("P by 1000003", 999999, x.convergent(0, 0, false, 1000003));
        due("P5 of the root of 2", 99, x.convergent(1, 5, false, 1000003));
        due("Q5 of the root of 2", 70, x.convergent(1, 5, true, 1000003));
        due("Q60 by 1", 0, x.convergent(1, 60, true, 1));
        fails("no term 3", PLACE, () -> x.convergent(0, 3, true, 0));
        reach("convergent", 60, x, k -> x.convergent(1, k, true, 7));
        failsAlone("convergent of no row", PLACE, x, () -> x.convergent(2, 0, true, 0));
        failsAlone("convergent by 0", RANGE, x, () -> x.convergent(1, 0, true, 0));
        failsAlone("convergent by 1000004", RANGE, x, () -> x.convergent(1, 0, false, 1000004));
    }

    private static void promise18() {
        Stepsdown x = house(-22, 7, 0, 1);
        x.root(0, 2, 1);
        x.root(1, 5, 2);
        due("text 0", "-4/1", x.convergentText(0, 0));
        due("text 2", "-22/7", x.convergentText(0, 2));
        due("text of 0", "0/1", x.convergentText(1, 0));
        due("text of the root of 2", "54608393/38613965", x.convergentText(2, 20));
        due("text 60 of the golden one", "4052739537881/2504730781961", x.convergentText(3, 60));
        fails("no term 3", PLACE, () -> x.convergentText(0, 3));
        reach("convergentText", 60, x, k -> x.convergentText(2, k));
        failsAlone("convergentText of no row", PLACE, x, () -> x.convergentText(4, 0));
    }

    private static void promise19() {
        Stepsdown x = house(45, 16);
        x.root(-7, 13, -3);
        for (int k = 0; k <= 3; k++) {
            due("cross " + k, k % 2 == 0 ? -1 : 1, x.cross(0, k));
        }
        for (int k = 0; k <= 60; k++) {
            due("cross " + k, k % 2 == 0 ? -1 : 1, x.cross(1, k));
        }
        fails("no term 4", PLACE, () -> x.cross(0, 4));
        reach("cross", 60, x, k -> x.cross(1, k));
        failsAlone("cross of no row", PLACE, x, () -> x.cross(2, 0));
    }

    private static void promise20() {
        Stepsdown x = house(45, 16, -3, 1);
        x.root(-7, 13, -3);
        int[] sides = {1, -1, 1, 0};
        for (int k = 0; k <= 3; k++) {
            due("side " + k, sides[k], x.side(0, k));
        }
        due("side of a whole number", 0, x.side(1, 0));
        for (int k = 0; k <= 60; k++) {
            due("side " + k, k % 2 == 0 ? 1 : -1, x.side(2, k));
        }
        fails("no term 4", PLACE, () -> x.side(0, 4));
        fails("no term 1", PLACE, () -> x.side(1, 1));
        reach("side", 60, x, k -> x.side(2, k));
        failsAlone("side of no row", PLACE, x, () -> x.side(3, 0));
    }

    private static void bests() {
        promise21();
        promise22();
        promise23();
        promise24();
    }

    /** A number whose first terms are those of the circle's. */
    private static Stepsdown circle() {
        Stepsdown x = drafted(3, 7, 15, 1, 99);
        x.finish();
        return x;
    }

    private static void promise21() {
        Stepsdown x = circle();
        due("a of best 100, kind 0", 311, x.best(0, 100, 0, false, 1000003));
        due("b of best 100, kind 0", 99, x.best(0, 100, 0, true, 1000003));
        due("a of best 100, kind 1", 22, x.best(0, 100, 1, false, 1000003));
        due("b of best 100, kind 1", 7, x.best(0, 100, 1, true, 1000003));
        due("a by 10", 1, x.best(0, 100, 0, false, 10));
        due("b by 1", 0, x.best(0, 100, 0, true, 1));
        Stepsdown half = house(1, 2, -1, 2, -7, 3);
        due("a tie goes to the smaller a", 0, half.best(0, 1, 0, false, 1000003));
        due("a tie goes to the smaller a, kind 1", 0, half.best(0, 1, 1, false, 1000003));
        due("a tie below 0", 1000002, half.best(1, 1, 0, false, 1000003));
        due("a below 0", 8, half.best(2, 1, 0, false, 10));
        due("most 9999", 3, half.best(2, 9999, 0, true, 10));
        failsAlone("best of no row", PLACE, x, () -> x.best(1, 0, 2, true, 0));
        failsAlone("best up to 0", RANGE, x, () -> x.best(0, 0, 0, true, 10));
        failsAlone("best up to 10000", RANGE, x, () -> x.best(0, 10000, 0, true, 10));
        failsAlone("best of kind 2", RANGE, x, () -> x.best(0, 1, 2, true, 10));
        failsAlone("best of kind -1", RANGE, x, () -> x.best(0, 1, -1, true, 10));
        failsAlone("best by 0", RANGE, x, () -> x.best(0, 1, 1, true, 0));
        failsAlone("best by 1000004", RANGE, x, () -> x.best(0, 1, 1, true, 1000004));
    }

    private static void promise22() {
        Stepsdown x = circle();
        String[] near = {"3/1", "13/4", "16/5", "19/6", "22/7", "179/57", "201/64", "223/71", "245/78", "267/85", "289/92",
            "311/99", "333/106"};
        int[] bounds = {1, 4, 5, 6, 7, 57, 64, 71, 78, 85, 92, 99, 106};
        for (int at = 0; at < near.length; at++) {
            due("bestText up to " + bounds[at], near[at], x.bestText(0, bounds[at], 0));
            due("bestText up to one less", near[Math.max(0, at - 1)], x.bestText(0, Math.max(1, bounds[at] - 1), 0));
        }
        due("kind 1 up to 105", "22/7", x.bestText(0, 105, 1));
        due("kind 1 up to 106", "333/106", x.bestText(0, 106, 1));
        due("kind 1 up to 113", "355/113", x.bestText(0, 113, 1));
        Stepsdown below = house(-22, 7, 0, 1);
        due("below 0", "-3/1", below.bestText(0, 3, 0));
        due("below 0, up to 6", "-19/6", below.bestText(0, 6, 0));
        due("0", "0/1", below.bestText(1, 9999, 1));
        failsAlone("bestText of no row", PLACE, x, () -> x.bestText(1, 0, 2));
        failsAlone("bestText up to 0", RANGE, x, () -> x.bestText(0, 0, 0));
        failsAlone("bestText up to 10000", RANGE, x, () -> x.bestText(0, 10000, 0));
        failsAlone("bestText of kind 2", RANGE, x, () -> x.bestText(0, 1, 2));
    }

    private static void promise23() {
        Stepsdown x = circle();
        due("22/7", true, x.isBest(0, 22, 7, 0));
        due("22/7, kind 1", true, x.isBest(0, 22, 7, 1));
        due("44/14", false, x.isBest(0, 44, 14, 0));
        due("25/8", false, x.isBest(0, 25, 8, 0));
        due("179/57", true, x.isBest(0, 179, 57, 0));
        due("179/57, kind 1", false, x.isBest(0, 179, 57, 1));
        due("21/7", false, x.isBest(0, 21, 7, 0));
        due("0/1 of 1/2", true, house(1, 2).isBest(0, 0, 1, 0));
        due("1/1 of 1/2", false, house(1, 2).isBest(0, 1, 1, 0));
        due("2/4 of 1/2", false, house(1, 2).isBest(0, 2, 4, 0));
        due("the edge", true, house(99999, 1).isBest(0, 99999, 1, 0));
        failsAlone("isBest of no row", PLACE, x, () -> x.isBest(1, 1000000, 0, 2));
        failsAlone("isBest a above", RANGE, x, () -> x.isBest(0, 1000000, 1, 0));
        failsAlone("isBest a below", RANGE, x, () -> x.isBest(0, -1000000, 1, 0));
        failsAlone("isBest b 0", RANGE, x, () -> x.isBest(0, 1, 0, 0));
        failsAlone("isBest b 10000", RANGE, x, () -> x.isBest(0, 1, 10000, 0));
        failsAlone("isBest kind 2", RANGE, x, () -> x.isBest(0, 1, 1, 2));
    }

    private static void promise24() {
        Stepsdown x = circle();
        due("bests up to 60, kind 0", 6, x.bests(0, 60, 0));
        due("bests up to 56, kind 0", 5, x.bests(0, 56, 0));
        due("bests up to 60, kind 1", 2, x.bests(0, 60, 1));
        due("bests up to 1", 1, x.bests(0, 1, 0));
        Stepsdown golden = roots(1, 5, 2);
        due("bests of the golden one, kind 1", 9, golden.bests(0, 55, 1));
        failsAlone("bests of no row", PLACE, x, () -> x.bests(1, 0, 2));
        failsAlone("bests up to 0", RANGE, x, () -> x.bests(0, 0, 0));
        failsAlone("bests up to 61", RANGE, x, () -> x.bests(0, 61, 0));
        failsAlone("bests of kind -1", RANGE, x, () -> x.bests(0, 1, -1));
    }

    private static void comparisons() {
        promise25();
        promise26();
        promise27();
        promise28();
    }

    private static void promise25() {
        Stepsdown x = house(1, 2);
        x.root(0, 2, 1);
        due("0 and 1 to 1/2", 0, x.nearer(0, 0, 1, 1, 1));
        due("1/2 and 2/4", 0, x.nearer(0, 1, 2, 2, 4));
        due("1/3 and 1/4 to 1/2", -1, x.nearer(0, 1, 3, 1, 4));
        due("1/4 and 1/3 to 1/2", 1, x.nearer(0, 1, 4, 1, 3));
        due("1/3 and 3/4 to 1/2", -1, x.nearer(0, 1, 3, 3, 4));
        due("7/5 and 17/12 to the root of 2", 1, x.nearer(1, 7, 5, 17, 12));
        due("8119/5741 and 3363/2378", -1, x.nearer(1, 8119, 5741, 3363, 2378));
        due("-1 and 3 to the root of 2", 1, x.nearer(1, -1, 1, 3, 1));
        due("999999/9999 and -999999/9999", -1, x.nearer(1, 999999, 9999, -999999, 9999));
        nearerFarOff();
        due("b 0", -9, x.nearer(0, 1, 0, 1, 1));
        due("d 0", -9, x.nearer(0, 1, 1, 1, 0));
        failsAlone("nearer to no row", PLACE, x, () -> x.nearer(2, 1000000, 0, 0, 0));
        failsAlone("nearer a above", RANGE, x, () -> x.nearer(0, 1000000, 0, 0, 0));
        failsAlone("nearer a below", RANGE, x, () -> x.nearer(0, -1000000, 1, 0, 1));
        failsAlone("nearer c above", RANGE, x, () -> x.nearer(0, 0, 1, 1000000, 1));
        failsAlone("nearer c below", RANGE, x, () -> x.nearer(0, 0, 1, -1000000, 1));
        failsAlone("nearer b below", RANGE, x, () -> x.nearer(0, 0, -1, 0, 1));
        failsAlone("nearer b above", RANGE, x, () -> x.nearer(0, 0, 10000, 0, 1));
        failsAlone("nearer d below", RANGE, x, () -> x.nearer(0, 0, 1, 0, -1));
        failsAlone("nearer d above", RANGE, x, () -> x.nearer(0, 0, 1, 0, 10000));
    }

    /** Numbers far above and far below all that the call can tell. */
    private static void nearerFarOff() {
        Stepsdown x = drafted(99, 1, 2, 3, 4, 5, 6, 7, 8, 9, 10, 11, 12);
        x.finish();
        for (int many = 0; many < 12; many++) {
            x.map(0, 9, 0, 0, 1);
            x.remove(0);
        }
        x.map(0, -1, 0, 0, 1);
        due("far above", 1, x.nearer(0, 999998, 9999, 999999, 9998));
        due("far above, turned", -1, x.nearer(0, 999999, 9998, 999998, 9999));
        due("far below", -1, x.nearer(1, 999998, 9999, 999999, 9998));
        due("far above the greatest", 1, x.against(0, 999999, 1));
        due("far below the least", -1, x.against(1, -999999, 1));
        due("far above all gears", 40, x.gears(0, 39, 40, false));
        due("far above all gears, b", 39, x.gears(0, 39, 40, true));
        due("far below all gears", 39, x.gears(1, 39, 40, false));
        due("far below all gears, b", 40, x.gears(1, 39, 40, true));
        due("never the best", false, x.isBest(0, 999999, 9999, 0));
    }

    private static void promise26() {
        Stepsdown x = house(-3, 2);
        x.root(0, 2, 1);
        due("-3/2 against -3/2", 0, x.against(0, -3, 2));
        due("-3/2 against -6/4", 0, x.against(0, -6, 4));
        due("-3/2 against -1", -1, x.against(0, -1, 1));
        due("-3/2 against -2", 1, x.against(0, -2, 1));
        due("root of 2 against 1393/985", 1, x.against(1, 1393, 985));
        due("root of 2 against 577/408", -1, x.against(1, 577, 408));
        due("root of 2 against -999999", 1, x.against(1, -999999, 1));
        due("root of 2 against 999999", -1, x.against(1, 999999, 1));
        due("root of 2 against 14140/9999", 1, x.against(1, 14140, 9999));
        due("root of 2 against 14141/9999", -1, x.against(1, 14141, 9999));
        due("b 0", -9, x.against(1, 5, 0));
        failsAlone("against of no row", PLACE, x, () -> x.against(2, 1000000, 0));
        failsAlone("against a above", RANGE, x, () -> x.against(0, 1000000, 0));
        failsAlone("against a below", RANGE, x, () -> x.against(0, -1000000, 1));
        failsAlone("against b above", RANGE, x, () -> x.against(0, 1, 10000));
        failsAlone("against b below", RANGE, x, () -> x.against(0, 1, -1));
    }

    private static void promise27() {
        Stepsdown x = house(3, 2, 7, 5, 6, 4, -3, 2, 17, 12);
        x.root(0, 2, 1);
        x.root(0, 8, 2);
        x.root(0, 2, -1);
        int[][] want = {{0, 1, 0, 1, 1, 1, 1, 1}, {-1, 0, -1, 1, -1, -1, -1, 1}, {0, 1, 0, 1, 1, 1, 1, 1},
            {-1, -1, -1, 0, -1, -1, -1, -1}, {-1, 1, -1, 1, 0, 1, 1, 1}, {-1, 1, -1, 1, -1, 0, 0, 1},
            {-1, 1, -1, 1, -1, 0, 0, 1}, {-1, -1, -1, 1, -1, -1, -1, 0}};
        for (int row = 0; row < 8; row++) {
            for (int other = 0; other < 8; other++) {
                due("compare " + row + " " + other, want[row][other], x.compare(row, other));
            }
        }
        failsAlone("compare of no row", PLACE, x, () -> x.compare(8, 0));
        failsAlone("compare with no row", PLACE, x, () -> x.compare(0, 8));
        failsAlone("compare below 0", PLACE, x, () -> x.compare(-1, -1));
        Stepsdown whole = house(2, 1, 5, 2);
        due("2 and 5/2", -1, whole.compare(0, 1));
        due("5/2 and 2", 1, whole.compare(1, 0));
    }

    private static void promise28() {
        Stepsdown x = house(7, 3, -5, 1, 1000, 1, 1, 2);
        due("a of gears for 7/3", 28, x.gears(0, 12, 40, false));
        due("b of gears for 7/3", 12, x.gears(0, 12, 40, true));
        due("a of gears for -5", 3, x.gears(1, 3, 9, false));
        due("b of gears for -5", 9, x.gears(1, 3, 9, true));
        due("a of gears for 1000", 9, x.gears(2, 3, 9, false));
        due("b of gears for 1000", 3, x.gears(2, 3, 9, true));
        due("one number of teeth", 40, x.gears(3, 40, 40, false));
        due("gears of 1/2", 2, x.gears(3, 1, 2, true));
        due("a tie", 7, house(13, 14).gears(0, 7, 7, false));
        x.root(0, 2, 1);
        due("a of gears for the root of 2", 17, x.gears(4, 12, 20, false));
        due("b of gears for the root of 2", 12, x.gears(4, 12, 20, true));
        gearsNearMiddles();
        failsAlone("gears of no row", PLACE, x, () -> x.gears(5, 0, 0, true));
        failsAlone("gears from 0", RANGE, x, () -> x.gears(0, 0, 5, true));
        failsAlone("gears from 41", RANGE, x, () -> x.gears(0, 41, 41, true));
        failsAlone("gears to less", RANGE, x, () -> x.gears(0, 5, 4, true));
        failsAlone("gears to 41", RANGE, x, () -> x.gears(0, 5, 41, true));
    }

    /** 3041/2964, with the terms 1 38 2 38, is the middle of 40/39 and 39/38. */
    private static void gearsNearMiddles() {
        Stepsdown x = drafted(1, 38, 2, 38);
        x.finish();
        due("a of gears for the middle", 39, x.gears(0, 38, 40, false));
        due("b of gears for the middle", 38, x.gears(0, 38, 40, true));
        due("the middle itself", 0, x.nearer(0, 40, 39, 39, 38));
        Stepsdown below = drafted(1, 38, 2, 38, 99, 99, 99);
        below.finish();
        due("a of gears a little below", 40, below.gears(0, 38, 40, false));
        due("b of gears a little below", 39, below.gears(0, 38, 40, true));
        due("a little below", -1, below.nearer(0, 40, 39, 39, 38));
        Stepsdown above = drafted(1, 38, 2, 37, 1, 99, 99, 99);
        above.finish();
        due("a of gears a little above", 39, above.gears(0, 38, 40, false));
        due("b of gears a little above", 38, above.gears(0, 38, 40, true));
        due("a little above", 1, above.nearer(0, 40, 39, 39, 38));
    }

    private static void fences() {
        promise29();
        promise30();
        promise31();
        promise32();
    }

    private static void promise29() {
        Stepsdown x = house(-3, 2, 7, 5);
        x.root(0, 2, 1);
        due("post 0", 0, x.post(0, 0, 10));
        due("post 1 below 0", 8, x.post(0, 1, 10));
        due("post 2 below 0", 7, x.post(0, 2, 10));
        due("post 5", 7, x.post(1, 5, 1000003));
        due("post 4", 5, x.post(1, 4, 1000003));
        due("post 9999 of 7/5", 13998, x.post(1, 9999, 1000003));
        due("post 9999 of the root of 2", 14140, x.post(2, 9999, 1000003));
        due("post by 1", 0, x.post(2, 9999, 1));
        failsAlone("post of no row", PLACE, x, () -> x.post(3, -1, 0));
        failsAlone("post -1", RANGE, x, () -> x.post(0, -1, 10));
        failsAlone("post 10000", RANGE, x, () -> x.post(0, 10000, 10));
        failsAlone("post by 0", RANGE, x, () -> x.post(0, 1, 0));
        failsAlone("post by 1000004", RANGE, x, () -> x.post(0, 1, 1000004));
    }

    private static void promise30() {
        Stepsdown x = house(-3, 2, 7, 5, 4, 1);
        int[] steps = {0, 0, 1, 0, 1};
        for (int k = 0; k < 5; k++) {
            due("step " + k, steps[k], x.step(1, k));
            due("step of a whole number", 0, x.step(2, k));
            due("step below 0", k % 2, x.step(0, k));
        }
        due("step 9998", 0, x.step(0, 9998));
        due("step 9997", 1, x.step(0, 9997));
        failsAlone("step of no row", PLACE, x, () -> x.step(3, -1));
        failsAlone("step -1", RANGE, x, () -> x.step(0, -1));
        failsAlone("step 9999", RANGE, x, () -> x.step(0, 9999));
    }

    private static void promise31() {
        Stepsdown x = house(-3, 2, 7, 5);
        due("longSteps 0 to 4", 2, x.longSteps(1, 0, 4));
        due("longSteps 2 to 2", 1, x.longSteps(1, 2, 2));
        due("longSteps 3 to 3", 0, x.longSteps(1, 3, 3));
        due("longSteps 2 to 4", 2, x.longSteps(1, 2, 4));
        due("longSteps 0 to 9998", 3999, x.longSteps(1, 0, 9998));
        due("longSteps below 0", 4999, x.longSteps(0, 0, 9998));
        due("longSteps 9998 to 9998", 0, x.longSteps(0, 9998, 9998));
        failsAlone("longSteps of no row", PLACE, x, () -> x.longSteps(2, -1, 0));
        failsAlone("longSteps from -1", RANGE, x, () -> x.longSteps(0, -1, 0));
        failsAlone("longSteps from 9999", RANGE, x, () -> x.longSteps(0, 9999, 9999));
        failsAlone("longSteps to 9999", RANGE, x, () -> x.longSteps(0, 1, 9999));
        failsAlone("longSteps to less", RANGE, x, () -> x.longSteps(0, 5, 4));
    }

    private static void promise32() {
        Stepsdown x = house(7, 5, 3, 1);
        x.root(1, 5, 2);
        due("fence", "0010100101", x.fence(0, 0, 10));
        due("fence from 2", "10100", x.fence(0, 2, 5));
        due("fence of one", "0", x.fence(0, 0, 1));
        due("fence of a whole number", "000", x.fence(1, 9900, 3));
        due("fence of the golden one", "0101101011011010110101101101011011010110", x.fence(2, 0, 40));
        due("fence 9900 and 40", 40, x.fence(2, 9900, 40).length());
        failsAlone("fence of no row", PLACE, x, () -> x.fence(3, -1, 0));
        failsAlone("fence from -1", RANGE, x, () -> x.fence(0, -1, 1));
        failsAlone("fence from 9901", RANGE, x, () -> x.fence(0, 9901, 1));
        failsAlone("fence of 0", RANGE, x, () -> x.fence(0, 0, 0));
        failsAlone("fence of 41", RANGE, x, () -> x.fence(0, 0, 41));
    }

    private static void calendars() {
        promise33();
        promise34();
        promise35();
        promise36();
        promise37();
        promise38();
    }

    /** A year of 365 and 31/128 days. */
    private static Stepsdown sun(int most) {
        Stepsdown x = house(46751, 128);
        x.calendar(0, most);
        return x;
    }

    private static void promise33() {
        due("cycle up to 4", 4, sun(4).ofCalendar(2));
        due("cycle up to 33", 33, sun(33).ofCalendar(2));
        Stepsdown x = house(-1, 2, 9999, 1, 10000, 1, 0, 1, 19999, 2);
        failsAlone("a calendar below 0", STATE, x, () -> x.calendar(0, 10));
        failsAlone("a calendar of 10000", STATE, x, () -> x.calendar(2, 10));
        due("a calendar of 9999", 1, x.calendar(1, 10));
        due("a calendar of 0", 1, x.calendar(3, 9999));
        due("a calendar of 9999 and a half", 2, x.calendar(4, 2));
        due("a calendar of 9999 and a half up to 1", 1, x.calendar(4, 1));
        due("its leaps", 0, x.ofCalendar(1));
        due("undo then", 8, x.house(2));
        failsAlone("a calendar of no row", PLACE, x, () -> x.calendar(5, 0));
        failsAlone("a calendar up to 0", RANGE, x, () -> x.calendar(0, 0));
        failsAlone("a calendar up to 10000", RANGE, x, () -> x.calendar(0, 10000));
        Stepsdown y = sun(33);
        y.remove(0);
        due("the calendar stays", 33, y.ofCalendar(2));
        y.fraction(5, 2);
        due("another in its place", 2, y.calendar(0, 9));
        due("its common", 2, y.ofCalendar(0));
        Stepsdown high = house(19997, 9999);
        due("nearly 2, up to 1", 1, high.calendar(0, 1));
        due("its common", 1, high.ofCalendar(0));
        due("its leaps", 1, high.ofCalendar(1));
    }

    private static void promise34() {
        Stepsdown x = sun(33);
        due("common", 365, x.ofCalendar(0));
        due("leaps", 8, x.ofCalendar(1));
        due("cycle", 33, x.ofCalendar(2));
        failsAlone("ofCalendar -1", RANGE, x, () -> x.ofCalendar(-1));
        failsAlone("ofCalendar 3", RANGE, x, () -> x.ofCalendar(3));
        Stepsdown none = new Stepsdown();
        failsAlone("ofCalendar of none", STATE, none, () -> none.ofCalendar(0));
        fails("ofCalendar 3 of none", RANGE, () -> none.ofCalendar(3));
    }

    private static void promise35() {
        Stepsdown x = sun(33);
        int leaps = 0;
        for (int year = 0; year < 33; year++) {
            leaps += x.isLeap(year) ? 1 : 0;
        }
        due("leap years of a cycle", 8, leaps);
        due("year 3", false, x.isLeap(3));
        due("year 4", true, x.isLeap(4));
        due("year 32", true, x.isLeap(32));
        due("year 33", false, x.isLeap(33));
        due("year 9999", false, x.isLeap(9999));
        failsAlone("isLeap -1", RANGE, x, () -> x.isLeap(-1));
        failsAlone("isLeap 10000", RANGE, x, () -> x.isLeap(10000));
        Stepsdown none = new Stepsdown();
        fails("isLeap of none", STATE, () -> none.isLeap(0));
        fails("isLeap 10000 of none", RANGE, () -> none.isLeap(10000));
    }

    private static void promise36() {
        Stepsdown x = sun(33);
        due("year 0", 0, x.days(0));
        due("year 1", 365, x.days(1));
        due("year 5", 1826, x.days(5));
        due("year 33", 12053, x.days(33));
        due("year 9999", 9999 * 365 + 9999 * 8 / 33, x.days(9999));
        failsAlone("days -1", RANGE, x, () -> x.days(-1));
        failsAlone("days 10000", RANGE, x, () -> x.days(10000));
        Stepsdown none = new Stepsdown();
        fails("days of none", STATE, () -> none.days(0));
        fails("days 10000 of none", RANGE, () -> none.days(10000));
    }

    private static void promise37() {
        Stepsdown x = sun(33);
        due("day 0", 0, x.yearOf(0));
        due("day 364", 0, x.yearOf(364));
        due("day 365", 1, x.yearOf(365));
        due("day 1825", 4, x.yearOf(1825));
        due("day 1826", 5, x.yearOf(1826));
        int last = 10000 * 365 + 10000 * 8 / 33 - 1;
        due("the last day", 9999, x.yearOf(last));
        due("one more", -1, x.yearOf(last + 1));
        due("far", -1, x.yearOf(MOST));
        failsAlone("yearOf -1", RANGE, x, () -> x.yearOf(-1));
        Stepsdown zero = house(0, 1, 1, 3);
        zero.calendar(0, 5);
        due("years without days", -1, zero.yearOf(0));
        zero.calendar(1, 5);
        due("a day each three years", 2, zero.yearOf(0));
        due("the next one", 5, zero.yearOf(1));
        due("the last one", 9998, zero.yearOf(3332));
        due("no more", -1, zero.yearOf(3333));
        Stepsdown none = new Stepsdown();
        fails("yearOf of none", STATE, () -> none.yearOf(0));
        fails("yearOf -1 of none", RANGE, () -> none.yearOf(-1));
    }

    private static void promise38() {
        Stepsdown x = sun(33);
        due("drift 0", 0, x.drift(0));
        due("drift 1", -25, x.drift(1));
        due("drift 5", -22, x.drift(5));
        due("drift 33", 0, x.drift(33));
        Stepsdown y = house(7, 2, 10, 3);
        y.calendar(0, 1);
        due("drift 1 of 7/2 by 3", -50, y.drift(1));
        due("drift 9999 of 7/2 by 3", -499950, y.drift(9999));
        y.calendar(1, 1);
        y.remove(1);
        due("drift 1 of 10/3 by 3", -34, y.drift(1));
        Stepsdown small = house(1, 100, 1, 9999);
        small.calendar(0, 1);
        due("drift 1 of 1/100 by 0", -1, small.drift(1));
        due("drift 99 of 1/100 by 0", -99, small.drift(99));
        small.calendar(1, 1);
        due("drift 99 of 1/9999 by 0", -1, small.drift(99));
        due("drift 100 of 1/9999 by 0", -2, small.drift(100));
        failsAlone("drift -1", RANGE, x, () -> x.drift(-1));
        failsAlone("drift 10000", RANGE, x, () -> x.drift(10000));
        Stepsdown none = new Stepsdown();
        fails("drift of none", STATE, () -> none.drift(0));
        fails("drift 10000 of none", RANGE, () -> none.drift(10000));
    }

    private static void answers() {
        promise39();
        promise40();
        promise41();
        promise42();
        promise43();
    }

    private static void promise39() {
        Stepsdown x = new Stepsdown();
        due("squareRoot -1", -9, x.squareRoot(-1));
        due("squareRoot least", -9, x.squareRoot(LEAST));
        due("squareRoot most", 46340, x.squareRoot(MOST));
        for (int root = 0; root <= 46340; root += root < 300 ? 1 : 991) {
            Stepsdown fresh = new Stepsdown();
            due("squareRoot of a square", root, fresh.squareRoot(root * root));
            due("squareRoot ahead of the next", root, fresh.squareRoot(root * root + 2 * root));
        }
        due("squareRoot 46340 * 46340 - 1", 46339, x.squareRoot(46340 * 46340 - 1));
    }

    private static void equations(String what, Stepsdown x, java.util.function.BiFunction<Integer, Integer, Object> call) {
        failsAlone(what + " d 1", RANGE, x, () -> call.apply(1, 1));
        failsAlone(what + " d 200", RANGE, x, () -> call.apply(200, 1));
        failsAlone(what + " d 4", RANGE, x, () -> call.apply(4, 1));
        failsAlone(what + " d 196", RANGE, x, () -> call.apply(196, 1));
        failsAlone(what + " d below", RANGE, x, () -> call.apply(LEAST, 1));
        failsAlone(what + " n 0", RANGE, x, () -> call.apply(7, 0));
        failsAlone(what + " n 3 of 7", RANGE, x, () -> call.apply(7, 3));
        failsAlone(what + " n -3 of 7", RANGE, x, () -> call.apply(7, -3));
        failsAlone(what + " n 15 of 199", RANGE, x, () -> call.apply(199, 15));
        failsAlone(what + " n 65536", RANGE, x, () -> call.apply(199, 65536));
        failsAlone(what + " n least", RANGE, x, () -> call.apply(199, LEAST));
        call.apply(199, 14);
        call.apply(199, -14);
        call.apply(2, -1);
    }

    private static void promise40() {
        Stepsdown x = new Stepsdown();
        due("x of 2 1", 3, x.answer(2, 1, 0, false, 1000003));
        due("y of 2 1", 2, x.answer(2, 1, 0, true, 1000003));
        due("x of 2 -1, next", 7, x.answer(2, -1, 1, false, 1000003));
        due("y of 2 -1, next", 5, x.answer(2, -1, 1, true, 1000003));
        due("y of 7 2", 1, x.answer(7, 2, 0, true, 10));
        due("x of 7 2", 3, x.answer(7, 2, 0, false, 10));
        due("none of 7 -1", -1, x.answer(7, -1, 0, false, 10));
        due("none of 3 -1", -1, x.answer(3, -1, 8, true, 10));
        due("x of 61 1 by 10", 9, x.answer(61, 1, 0, false, 10));
        due("x by 1", 0, x.answer(61, 1, 8, false, 1));
        equations("answer", x, (d, n) -> x.answer(d, n, 0, true, 10));
        failsAlone("answer -1", RANGE, x, () -> x.answer(7, 1, -1, true, 10));
        failsAlone("answer 9", RANGE, x, () -> x.answer(7, 1, 9, true, 10));
        failsAlone("answer by 0", RANGE, x, () -> x.answer(7, -1, 0, true, 0));
        failsAlone("answer by 1000004", RANGE, x, () -> x.answer(7, 1, 0, true, 1000004));
    }

    private static void promise41() {
        Stepsdown x = new Stepsdown();
        due("7 1", "8,3", x.answerText(7, 1, 0));
        due("7 1, next", "127,48", x.answerText(7, 1, 1));
        due("61 1", "1766319049,226153980", x.answerText(61, 1, 0));
        due("61 -1", "29718,3805", x.answerText(61, -1, 0));
        due("13 3", "4,1", x.answerText(13, 3, 0));
        due("13 3, next", "256,71", x.answerText(13, 3, 1));
        due("13 -3", "7,2", x.answerText(13, -3, 0));
        due("7 -1", "", x.answerText(7, -1, 0));
        due("181 1", "2469645423824185801,183567298683461940", x.answerText(181, 1, 0));
        due("17 4", "", x.answerText(17, 4, 0));
        due("20 4", "", x.answerText(20, 4, 8));
        equations("answerText", x, (d, n) -> x.answerText(d, n, 0));
        failsAlone("answerText -1", RANGE, x, () -> x.answerText(7, 1, -1));
        failsAlone("answerText 9", RANGE, x, () -> x.answerText(7, 1, 9));
    }

    private static void promise42() {
        Stepsdown x = new Stepsdown();
        due("2 1 with a digit", 1, x.answers(2, 1, 1));
        due("2 1 with two digits", 3, x.answers(2, 1, 2));
        due("2 -1 with a digit", 2, x.answers(2, -1, 1));
        due("none", 0, x.answers(7, -1, 20));
        due("61 1 with 8 digits", 0, x.answers(61, 1, 8));
        due("61 1 with 9 digits", 1, x.answers(61, 1, 9));
        due("181 1 with 20 digits", 1, x.answers(181, 1, 20));
        due("2 1 with 20 digits", 26, x.answers(2, 1, 20));
        equations("answers", x, (d, n) -> x.answers(d, n, 1));
        failsAlone("answers of 0 digits", RANGE, x, () -> x.answers(7, 1, 0));
        failsAlone("answers of 21 digits", RANGE, x, () -> x.answers(7, 1, 21));
    }

    private static void promise43() {
        Stepsdown x = new Stepsdown();
        int[][] known = {{2, 1}, {3, 2}, {7, 4}, {13, 5}, {46, 12}, {61, 11}, {94, 16}, {139, 18}, {151, 20}, {181, 21},
            {199, 20}, {195, 2}};
        for (int[] pair : known) {
            due("rootPeriod " + pair[0], pair[1], x.rootPeriod(pair[0]));
        }
        for (int d : new int[] {LEAST, -1, 0, 1, 4, 9, 196, 200, MOST}) {
            failsAlone("rootPeriod " + d, RANGE, x, () -> x.rootPeriod(d));
        }
    }

    private static void all() {
        promise44();
        promise45();
        promise46();
    }

    private static void promise44() {
        Stepsdown x = house(5, 2, 7, 3);
        x.push(4);
        x.knock();
        x.knock();
        x.calendar(0, 3);
        int[] want = {2, 1, 4, 2, 1};
        for (int what = 0; what <= 4; what++) {
            due("house " + what, want[what], x.house(what));
        }
        failsAlone("house -1", RANGE, x, () -> x.house(-1));
        failsAlone("house 5", RANGE, x, () -> x.house(5));
    }

    private static void promise45() {
        due("a new object is sound", true, new Stepsdown().isSound());
        due("fractions are sound", true, full().isSound());
        due("others too", true, house(-99999, 9998, 0, 1, 7, 1, -7, 1, 1, 2, -1, 2, 9999, 9998, 1, 9999).isSound());
        due("roots are sound", true, roots(-99, 199, 6, 99, 198, -5, 0, 2, 1, 1, 5, 2, 7, 61, 4, 0, 3, -1).isSound());
    }

    private static long sum(long... values) {
        long sum = 4909;
        for (long value : values) {
            sum = sum * 31 + value;
        }
        return sum;
    }

    private static void promise46() {
        due("digest of none", sum(0, 0, 0, 0, 0, 1), new Stepsdown().digest());
        Stepsdown x = house(5, 2);
        x.push(-4);
        x.push(3);
        x.knock();
        due("digest of 5/2", sum(1, 2, 3, 1, 0, -4, 3, 0, 2, -1, -1, 1, -1, 3, 2, 2, 1, 2, 5, 2, 5, 2, 5, 2, 250, 10, 1, 0, 1,
                1), x.digest());
        x.calendar(0, 7);
        x.undo();
        x.pop();
        x.pop();
        x.root(0, 2, -1);
        x.calendar(0, 7);
        due("digest of 5/2 and -root of 2", sum(2, 0, 7, 1, 1, 0, 2, -1, -1, 1, -1, 3, 2, 2, 1, 2, 5, 2, 5, 2, 5, 2, 250, 10,
                1, 0, 1, 1, 4, 3, 1, -1, 1, 10, 1000001, 1000001, 1, 1, 1000002, 1, 1, 1000000, 2, 2, 999996, 5, 2, 999986,
                12, 2, 999962, 29, 2, 999904, 70, 2, 999764, 169, 999863, 99, 999904, 70, 999861, 12, -1, -1, 0, 2, 1, 2,
                1000, 0, 1), x.digest());
    }
}
