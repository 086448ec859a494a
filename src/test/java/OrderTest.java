import java.util.function.Supplier;

/**
 * If several exceptions apply, the one that is named first is thrown; if what is asked for cannot be and an exception
 * applies as well, that is thrown. What throws or is REFUSED changes nothing, nor does what only asks.
 */
public final class OrderTest {
    private static final String PLACE = "throws.IndexOutOfBoundsException";
    private static final String RANGE = "throws.IllegalArgumentException";
    private static final String STATE = "throws.IllegalStateException";
    private static final String REFUSED = "-9";
    private static final String NONE = "-1";
    private static int wrong = 0;
    private static int asked = 0;

    private interface Call {
        Object of(Stepsdown x);
    }

    public static void main(String[] args) {
        making();
        finishing();
        mapping();
        mappingRefused();
        terms();
        machines();
        convergents();
        bests();
        comparisons();
        gearsAndFences();
        calendars();
        calendarsWithoutOne();
        equations();
        refusals();
        questions();
        moreQuestions();
        System.out.println(asked + " questions, " + wrong + " wrong answers");
        System.exit(wrong == 0 ? 0 : 1);
    }

    private static void due(String what, String want, String got) {
        asked++;
        if (!want.equals(got)) {
            wrong++;
            System.out.println(what + " answered " + got + ", due is " + want);
        }
    }

    private static String answer(Stepsdown x, Call call) {
        try {
            return String.valueOf(call.of(x));
        } catch (RuntimeException e) {
            return "throws." + e.getClass().getSimpleName();
        }
    }

    /** The call answers so, and its object is as a twin that was not asked, undone to the end. */
    private static void alone(String what, String want, Supplier<Stepsdown> made, Call call) {
        Stepsdown x = made.get();
        due(what, want, answer(x, call));
        due(what + " changes nothing", told(made.get()), told(x));
    }

    private static String told(Stepsdown x) {
        StringBuilder text = new StringBuilder();
        text.append(x.digest()).append(" knocks ").append(x.house(3));
        for (int left = x.house(2); left >= 0; left--) {
            text.append(" | ").append(left).append(" rows");
            int rows = x.house(0);
            int terms = x.house(1);
            int calendars = x.house(4);
            for (int row = 0; row < rows; row++) {
                text.append(' ').append(x.terms(row)).append(';');
            }
            text.append(" draft");
            for (int k = 0; k < terms; k++) {
                text.append(' ').append(x.draft(k));
            }
            for (int what = 0; what <= 2 && calendars == 1; what++) {
                text.append(" calendar ").append(x.ofCalendar(what));
            }
            if (left > 0) {
                x.undo();
            }
        }
        return text.toString();
    }

    /** Rows -3/2, root of 7 and 20000/3, the draft 4 5, a calendar of 5/2, a knock. */
    private static Stepsdown busy() {
        Stepsdown x = new Stepsdown();
        x.fraction(5, 2);
        x.calendar(0, 7);
        x.fraction(-3, 2);
        x.root(0, 7, 1);
        x.remove(0);
        x.push(4);
        x.push(5);
        x.fraction(20000, 3);
        x.knock();
        return x;
    }

    /** Eight rows, and no calendar. */
    private static Stepsdown full() {
        Stepsdown x = new Stepsdown();
        x.root(0, 7, 1);
        for (int under = 2; under <= 8; under++) {
            x.fraction(-1, under);
        }
        return x;
    }

    /** Eight rows, and 24 terms of the draft. */
    private static Stepsdown brimming() {
        Stepsdown x = full();
        for (int k = 0; k < 24; k++) {
            x.push(7);
        }
        return x;
    }

    private static void making() {
        alone("fraction, p and 8 rows", RANGE, OrderTest::full, x -> x.fraction(100000, 1));
        alone("fraction, q and 8 rows", RANGE, OrderTest::full, x -> x.fraction(1, 10000));
        alone("fraction, 8 rows and q 0", STATE, OrderTest::full, x -> x.fraction(1, 0));
        alone("fraction, p and q 0", RANGE, OrderTest::busy, x -> x.fraction(-100000, 0));
        alone("fraction, p, 8 rows and q 0", RANGE, OrderTest::full, x -> x.fraction(100000, 0));
        alone("root, p and 8 rows", RANGE, OrderTest::full, x -> x.root(100, 2, 1));
        alone("root, d and 8 rows", RANGE, OrderTest::full, x -> x.root(0, 200, 1));
        alone("root, q and 8 rows", RANGE, OrderTest::full, x -> x.root(0, 2, 7));
        alone("root, a square and 8 rows", RANGE, OrderTest::full, x -> x.root(0, 9, 1));
        alone("root, d below 0 and 8 rows", STATE, OrderTest::full, x -> x.root(0, -2, 1));
        alone("root, q 0 and 8 rows", STATE, OrderTest::full, x -> x.root(0, 2, 0));
        alone("root, p and d below 0", RANGE, OrderTest::busy, x -> x.root(-100, -2, 1));
        alone("root, q and d below 0", RANGE, OrderTest::busy, x -> x.root(0, -2, -7));
        alone("root, p and q 0", RANGE, OrderTest::busy, x -> x.root(100, 2, 0));
        alone("root, d and q 0", RANGE, OrderTest::busy, x -> x.root(0, 200, 0));
        alone("root, far below and q 0", RANGE, OrderTest::busy, x -> x.root(0, -10, 0));
        alone("root, a square and q 0", RANGE, OrderTest::busy, x -> x.root(0, 0, 0));
        alone("push, a term and 24", RANGE, OrderTest::brimming, x -> x.push(0));
        alone("push, a far term and 24", RANGE, OrderTest::brimming, x -> x.push(100));
        alone("push, a term for an empty draft and 24", RANGE, OrderTest::brimming, x -> x.push(-99));
    }

    private static void finishing() {
        alone("finish, none and 8 rows", STATE, OrderTest::full, Stepsdown::finish);
        alone("finish, 8 rows", STATE, OrderTest::brimming, Stepsdown::finish);
        alone("finish, none", STATE, Stepsdown::new, Stepsdown::finish);
        alone("undo, none", STATE, Stepsdown::new, Stepsdown::undo);
        alone("remove", PLACE, OrderTest::busy, x -> x.remove(3));
    }

    private static void mapping() {
        alone("map, row and a", PLACE, OrderTest::busy, x -> x.map(3, 10, 0, 0, 1));
        alone("map, row and d", PLACE, OrderTest::busy, x -> x.map(-1, 1, 0, 0, -10));
        alone("map, row and no turn", PLACE, OrderTest::busy, x -> x.map(3, 1, 1, 1, 1));
        alone("map, row and 8 rows", PLACE, OrderTest::full, x -> x.map(8, 1, 0, 0, 1));
        alone("map, row, a and 8 rows", PLACE, OrderTest::full, x -> x.map(8, 10, 0, 0, 1));
        alone("map, a and 8 rows", RANGE, OrderTest::full, x -> x.map(0, 10, 0, 0, 1));
        alone("map, b and 8 rows", RANGE, OrderTest::full, x -> x.map(0, 1, -10, 0, 1));
        alone("map, c and 8 rows", RANGE, OrderTest::full, x -> x.map(0, 1, 0, 10, 1));
        alone("map, d and 8 rows", RANGE, OrderTest::full, x -> x.map(0, 1, 0, 0, 10));
        alone("map, no turn and 8 rows", RANGE, OrderTest::full, x -> x.map(0, 2, 4, 1, 2));
        alone("map, 8 rows", STATE, OrderTest::full, x -> x.map(0, 1, 0, 0, 1));
    }

    private static void mappingRefused() {
        alone("map, row and what would be by 0", PLACE, OrderTest::busy, x -> x.map(3, 1, 0, 2, 3));
        alone("map, a and by 0", RANGE, OrderTest::busy, x -> x.map(0, 10, 0, 2, 3));
        alone("map, b and by 0", RANGE, OrderTest::busy, x -> x.map(0, 1, 10, 2, 3));
        alone("map, no turn and by 0", RANGE, OrderTest::busy, x -> x.map(0, 4, 6, 2, 3));
        alone("map, 8 rows and by 0", STATE, OrderTest::full, x -> x.map(1, 1, 0, 2, 1));
        alone("map, c, 8 rows and by 0", RANGE, OrderTest::full, x -> x.map(1, 1, 0, 10, 5));
        alone("map by 0", REFUSED, OrderTest::busy, x -> x.map(0, 1, 0, 2, 3));
    }

    private static void terms() {
        alone("ofRow, row and what", PLACE, OrderTest::busy, x -> x.ofRow(3, 6));
        alone("ofRow, row below 0 and what", PLACE, OrderTest::busy, x -> x.ofRow(-1, -1));
        alone("term, row and by", PLACE, OrderTest::busy, x -> x.term(3, 0, 0));
        alone("term, row and k", PLACE, OrderTest::busy, x -> x.term(3, -1, 1));
        alone("term, k and by", PLACE, OrderTest::busy, x -> x.term(1, 1000, 1000004));
        alone("term, k below 0 and by", PLACE, OrderTest::busy, x -> x.term(1, -1, 0));
        alone("term, no term and by", PLACE, OrderTest::busy, x -> x.term(0, 2, 0));
        alone("term, by", RANGE, OrderTest::busy, x -> x.term(0, 1, 0));
        alone("sameTail, both rows", PLACE, OrderTest::busy, x -> x.sameTail(3, 3));
        alone("compare, both rows", PLACE, OrderTest::busy, x -> x.compare(-1, 3));
    }

    private static void machines() {
        alone("machine, row and a", PLACE, OrderTest::busy, x -> x.machine(3, 10, 0, 0, 1, 0));
        alone("machine, row and no turn", PLACE, OrderTest::busy, x -> x.machine(3, 1, 1, 1, 1, 0));
        alone("machine, row and k", PLACE, OrderTest::busy, x -> x.machine(-1, 1, 0, 0, 1, 21));
        alone("machine, a and by 0", RANGE, OrderTest::busy, x -> x.machine(0, 10, 0, 2, 3, 0));
        alone("machine, no turn and by 0", RANGE, OrderTest::busy, x -> x.machine(0, 4, 6, 2, 3, 0));
        alone("machine, k and by 0", RANGE, OrderTest::busy, x -> x.machine(0, 1, 0, 2, 3, 21));
        alone("machine, k below 0 and by 0", RANGE, OrderTest::busy, x -> x.machine(0, 1, 0, 2, 3, -1));
        alone("machine, k and no such term", RANGE, OrderTest::busy, x -> x.machine(0, 1, 0, 0, 1, 21));
        alone("machine by 0", REFUSED, OrderTest::busy, x -> x.machine(0, 1, 0, 2, 3, 0));
        alone("machine by 0, and no such term", REFUSED, OrderTest::busy, x -> x.machine(0, 1, 0, 2, 3, 20));
        alone("machine by 0 with 8 rows", REFUSED, OrderTest::full, x -> x.machine(1, 1, 0, 2, 1, 0));
        alone("machine without such a term", NONE, OrderTest::busy, x -> x.machine(0, 1, 0, 0, 1, 2));
    }

    private static void convergents() {
        alone("convergent, row and by", PLACE, OrderTest::busy, x -> x.convergent(3, 0, true, 0));
        alone("convergent, row and k", PLACE, OrderTest::busy, x -> x.convergent(3, 61, true, 1));
        alone("convergent, k and by", PLACE, OrderTest::busy, x -> x.convergent(1, 61, true, 0));
        alone("convergent, k below 0 and by", PLACE, OrderTest::busy, x -> x.convergent(1, -1, false, 1000004));
        alone("convergent, no term and by", PLACE, OrderTest::busy, x -> x.convergent(0, 2, false, 0));
        alone("convergent, by", RANGE, OrderTest::busy, x -> x.convergent(0, 1, false, 0));
        alone("convergentText, row and k", PLACE, OrderTest::busy, x -> x.convergentText(3, 61));
        alone("cross, row and k", PLACE, OrderTest::busy, x -> x.cross(3, 61));
        alone("side, row and k", PLACE, OrderTest::busy, x -> x.side(3, -1));
    }

    private static void bests() {
        alone("best, row and most", PLACE, OrderTest::busy, x -> x.best(3, 0, 0, true, 1));
        alone("best, row and kind", PLACE, OrderTest::busy, x -> x.best(3, 1, 2, true, 1));
        alone("best, row and by", PLACE, OrderTest::busy, x -> x.best(3, 1, 0, true, 0));
        alone("bestText, row and most", PLACE, OrderTest::busy, x -> x.bestText(3, 10000, 0));
        alone("bestText, row and kind", PLACE, OrderTest::busy, x -> x.bestText(3, 1, -1));
        alone("isBest, row and a", PLACE, OrderTest::busy, x -> x.isBest(3, 1000000, 1, 0));
        alone("isBest, row and b", PLACE, OrderTest::busy, x -> x.isBest(3, 1, 0, 0));
        alone("isBest, row and kind", PLACE, OrderTest::busy, x -> x.isBest(3, 1, 1, 2));
        alone("bests, row and most", PLACE, OrderTest::busy, x -> x.bests(3, 61, 0));
        alone("bests, row and kind", PLACE, OrderTest::busy, x -> x.bests(3, 1, 2));
    }

    private static void comparisons() {
        alone("nearer, row and a", PLACE, OrderTest::busy, x -> x.nearer(3, 1000000, 1, 1, 1));
        alone("nearer, row and b 0", PLACE, OrderTest::busy, x -> x.nearer(3, 1, 0, 1, 1));
        alone("nearer, a and b 0", RANGE, OrderTest::busy, x -> x.nearer(0, 1000000, 0, 1, 1));
        alone("nearer, c and b 0", RANGE, OrderTest::busy, x -> x.nearer(0, 1, 0, -1000000, 1));
        alone("nearer, d and b 0", RANGE, OrderTest::busy, x -> x.nearer(0, 1, 0, 1, 10000));
        alone("nearer, d below 0 and b 0", RANGE, OrderTest::busy, x -> x.nearer(0, 1, 0, 1, -1));
        alone("nearer, b and d 0", RANGE, OrderTest::busy, x -> x.nearer(0, 1, 10000, 1, 0));
        alone("nearer, b below 0 and d 0", RANGE, OrderTest::busy, x -> x.nearer(0, 1, -1, 1, 0));
        alone("nearer, b 0", REFUSED, OrderTest::busy, x -> x.nearer(0, 1, 0, 1, 1));
        alone("nearer, d 0", REFUSED, OrderTest::busy, x -> x.nearer(0, 1, 1, 1, 0));
        alone("nearer, both 0 over 0", REFUSED, OrderTest::busy, x -> x.nearer(0, 0, 0, 0, 0));
        alone("against, row and a", PLACE, OrderTest::busy, x -> x.against(3, 1000000, 1));
        alone("against, row and b", PLACE, OrderTest::busy, x -> x.against(3, 1, 10000));
        alone("against, row and b 0", PLACE, OrderTest::busy, x -> x.against(3, 1, 0));
        alone("against, a and b 0", RANGE, OrderTest::busy, x -> x.against(0, -1000000, 0));
        alone("against, b 0", REFUSED, OrderTest::busy, x -> x.against(0, 0, 0));
    }

    private static void gearsAndFences() {
        alone("gears, row and least", PLACE, OrderTest::busy, x -> x.gears(3, 0, 5, true));
        alone("gears, row and most", PLACE, OrderTest::busy, x -> x.gears(3, 5, 4, true));
        alone("post, row and k", PLACE, OrderTest::busy, x -> x.post(3, 10000, 1));
        alone("post, row and by", PLACE, OrderTest::busy, x -> x.post(3, 0, 0));
        alone("step, row and k", PLACE, OrderTest::busy, x -> x.step(3, 9999));
        alone("longSteps, row and from", PLACE, OrderTest::busy, x -> x.longSteps(3, -1, 0));
        alone("longSteps, row and to", PLACE, OrderTest::busy, x -> x.longSteps(3, 1, 0));
        alone("fence, row and from", PLACE, OrderTest::busy, x -> x.fence(3, 9901, 1));
        alone("fence, row and many", PLACE, OrderTest::busy, x -> x.fence(3, 0, 41));
    }

    private static void calendars() {
        alone("calendar, row and most", PLACE, OrderTest::busy, x -> x.calendar(3, 0));
        alone("calendar, most and TERM 0", RANGE, OrderTest::busy, x -> x.calendar(0, 0));
        alone("calendar, most above and TERM 0", RANGE, OrderTest::busy, x -> x.calendar(0, 10000));
        alone("calendar, TERM 0", STATE, OrderTest::busy, x -> x.calendar(0, 1));
        alone("calendar, most with TERM 0 right", RANGE, OrderTest::busy, x -> x.calendar(1, 0));
    }

    private static void calendarsWithoutOne() {
        alone("ofCalendar, what and no calendar", RANGE, OrderTest::full, x -> x.ofCalendar(3));
        alone("isLeap, year and no calendar", RANGE, OrderTest::full, x -> x.isLeap(10000));
        alone("days, year and no calendar", RANGE, OrderTest::full, x -> x.days(-1));
        alone("yearOf, day and no calendar", RANGE, OrderTest::full, x -> x.yearOf(-1));
        alone("drift, year and no calendar", RANGE, OrderTest::full, x -> x.drift(10000));
        alone("ofCalendar, no calendar", STATE, OrderTest::full, x -> x.ofCalendar(0));
        alone("isLeap, no calendar", STATE, OrderTest::full, x -> x.isLeap(0));
        alone("days, no calendar", STATE, OrderTest::full, x -> x.days(0));
        alone("yearOf, no calendar", STATE, OrderTest::full, x -> x.yearOf(Integer.MAX_VALUE));
        alone("drift, no calendar", STATE, OrderTest::full, x -> x.drift(0));
    }

    /** Where there are no ANSWERS, the bounds are looked at all the same. */
    private static void equations() {
        alone("answer, k without answers", RANGE, OrderTest::busy, x -> x.answer(7, -1, 9, true, 1));
        alone("answer, by without answers", RANGE, OrderTest::busy, x -> x.answer(7, -1, 0, true, 1000004));
        alone("answer without answers", NONE, OrderTest::busy, x -> x.answer(7, -1, 0, true, 1));
        alone("answerText, k without answers", RANGE, OrderTest::busy, x -> x.answerText(7, -1, 9));
        alone("answerText without answers", "", OrderTest::busy, x -> x.answerText(7, -1, 0));
        alone("answers, digits without answers", RANGE, OrderTest::busy, x -> x.answers(7, -1, 21));
        alone("answers without answers", "0", OrderTest::busy, x -> x.answers(7, -1, 20));
    }

    private static Stepsdown withoutDraft() {
        Stepsdown x = busy();
        x.pop();
        x.pop();
        return x;
    }

    private static void refusals() {
        alone("fraction, q 0", REFUSED, OrderTest::busy, x -> x.fraction(5, 0));
        alone("fraction, 0 over 0", REFUSED, OrderTest::busy, x -> x.fraction(0, 0));
        alone("root, d below 0", REFUSED, OrderTest::busy, x -> x.root(5, -2, 3));
        alone("root, q 0", REFUSED, OrderTest::busy, x -> x.root(5, 2, 0));
        alone("root, both", REFUSED, OrderTest::busy, x -> x.root(5, -9, 0));
        alone("pop, none", REFUSED, OrderTest::withoutDraft, Stepsdown::pop);
        alone("pop, none with 8 rows", REFUSED, OrderTest::full, Stepsdown::pop);
        alone("squareRoot below 0", REFUSED, OrderTest::busy, x -> x.squareRoot(-4));
    }

    private static void questions() {
        alone("ofRow", "1", OrderTest::busy, x -> x.ofRow(1, 0));
        alone("term", "4", OrderTest::busy, x -> x.term(1, 4, 10));
        alone("terms", "-2 2", OrderTest::busy, x -> x.terms(0));
        alone("draft", "5", OrderTest::busy, x -> x.draft(1));
        alone("sameTail", "true", OrderTest::busy, x -> x.sameTail(0, 2));
        alone("machine", "7", OrderTest::busy, x -> x.machine(1, 3, 0, 0, 1, 0));
        alone("convergent", "8", OrderTest::busy, x -> x.convergent(1, 3, false, 10));
        alone("convergentText", "8/3", OrderTest::busy, x -> x.convergentText(1, 3));
        alone("cross", "1", OrderTest::busy, x -> x.cross(1, 3));
        alone("side", "-1", OrderTest::busy, x -> x.side(1, 3));
        alone("best", "3", OrderTest::busy, x -> x.best(1, 5, 0, true, 10));
        alone("bestText", "8/3", OrderTest::busy, x -> x.bestText(1, 5, 0));
        alone("isBest", "true", OrderTest::busy, x -> x.isBest(1, 8, 3, 1));
        alone("bests", "3", OrderTest::busy, x -> x.bests(1, 5, 0));
        alone("nearer", "-1", OrderTest::busy, x -> x.nearer(1, 8, 3, 5, 2));
        alone("against", "-1", OrderTest::busy, x -> x.against(1, 8, 3));
        alone("compare", "1", OrderTest::busy, x -> x.compare(1, 0));
        alone("gears", "37", OrderTest::busy, x -> x.gears(1, 1, 40, false));
        alone("post", "7", OrderTest::busy, x -> x.post(1, 3, 10));
        alone("step", "1", OrderTest::busy, x -> x.step(1, 1));
        alone("longSteps", "2", OrderTest::busy, x -> x.longSteps(1, 0, 3));
        alone("fence", "0101", OrderTest::busy, x -> x.fence(1, 0, 4));
    }

    private static void moreQuestions() {
        alone("ofCalendar", "2", OrderTest::busy, x -> x.ofCalendar(2));
        alone("isLeap", "true", OrderTest::busy, x -> x.isLeap(1));
        alone("days", "7", OrderTest::busy, x -> x.days(3));
        alone("yearOf", "3", OrderTest::busy, x -> x.yearOf(7));
        alone("drift", "-50", OrderTest::busy, x -> x.drift(3));
        alone("squareRoot", "3", OrderTest::busy, x -> x.squareRoot(15));
        alone("answer", "8", OrderTest::busy, x -> x.answer(7, 1, 0, false, 10));
        alone("answerText", "8,3", OrderTest::busy, x -> x.answerText(7, 1, 0));
        alone("answers", "2", OrderTest::busy, x -> x.answers(7, 1, 2));
        alone("rootPeriod", "4", OrderTest::busy, x -> x.rootPeriod(7));
        alone("house", "2", OrderTest::busy, x -> x.house(1));
        alone("isSound", "true", OrderTest::busy, Stepsdown::isSound);
        long sum = busy().digest();
        alone("digest", String.valueOf(sum), OrderTest::busy, Stepsdown::digest);
    }
}
