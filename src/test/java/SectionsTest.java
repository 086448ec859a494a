import java.math.BigInteger;
import java.util.ArrayList;
import java.util.List;

/** Section by section: each sentence ahead of the promises that names an edge. */
public final class SectionsTest {
    private static final int BY = 1000003;
    private static int wrong = 0;
    private static int asked = 0;

    private interface Change {
        Object to(Stepsdown x);
    }

    public static void main(String[] args) {
        head();
        lastCalls();
        greatFractions();
        greatRoots();
        rowsAreNumberedAsTheyCame();
        rowsNeverChange();
        oneRowOfTermsForEachNumber();
        termsOfFractions();
        leastBeginAndPeriod();
        beginsAndPeriods();
        draftsThatEndWithOne();
        draftsThatBeginAgain();
        convergents();
        sidesOfRootsOverLessThanZero();
        tiesOfKindZero();
        tiesOfKindOne();
        kinds();
        bestByTryingAll();
        tiesOfGears();
        outOfAnother();
        tails();
        fences();
        calendars();
        calendarsStay();
        driftsOfFractions();
        driftsOfRoots();
        calendarsWithDaysOfNone();
        answersByTryingAll();
        answersThatAreNone();
        stepsBack();
        stepsBackOfEachKind();
        whatIsNoStepBack();
        knocks();
        digests();
        System.out.println(asked + " questions, " + wrong + " wrong answers");
        System.exit(wrong == 0 ? 0 : 1);
    }

    private static void due(String what, Object want, Object got) {
        asked++;
        if (!want.equals(got)) {
            wrong++;
            System.out.println(what + " answered " + got + ", due is " + want);
        }
    }

    private static void fails(String what, Class<?> name, Stepsdown x, Change call) {
        Object got = "nothing";
        try {
            call.to(x);
        } catch (RuntimeException e) {
            got = e.getClass();
        }
        due(what + " throws", name, got);
    }

    private static Stepsdown house(int... pairs) {
        Stepsdown x = new Stepsdown();
        for (int at = 0; at + 1 < pairs.length; at += 2) {
            x.fraction(pairs[at], pairs[at + 1]);
        }
        return x;
    }

    private static Stepsdown rooted(int p, int d, int q) {
        Stepsdown x = new Stepsdown();
        x.root(p, d, q);
        return x;
    }

    private static Stepsdown finished(int... terms) {
        Stepsdown x = new Stepsdown();
        for (int term : terms) {
            x.push(term);
        }
        x.finish();
        return x;
    }

    private static String rows(Stepsdown x) {
        StringBuilder text = new StringBuilder();
        int rows = x.house(0);
        for (int row = 0; row < rows; row++) {
            text.append(x.terms(row)).append(';');
        }
        return text.toString();
    }

    private static String draft(Stepsdown x) {
        StringBuilder text = new StringBuilder();
        int terms = x.house(1);
        for (int k = 0; k < terms; k++) {
            text.append(x.draft(k)).append(' ');
        }
        return text.toString();
    }

    private static String calendar(Stepsdown x) {
        return x.house(4) == 0 ? "none" : x.ofCalendar(0) + " " + x.ofCalendar(1) + "/" + x.ofCalendar(2);
    }

    private static String all(Stepsdown x) {
        return rows(x) + " " + draft(x) + calendar(x);
    }

    // The head

    private static void head() {
        Stepsdown x = house(-3, 2, -1, 1);
        due("FLOOR of -1.5", "-2/1", x.convergentText(0, 0));
        due("REST of -1 by 10", 9, x.term(1, 0, 10));
        due("REST of -1 by 1", 0, x.term(1, 0, 1));
        due("REST of -1 by 1000003", 1000002, x.term(1, 0, BY));
        due("REST of -10 by 10", 0, house(-10, 1).term(0, 0, 10));
        due("REST of 1000003 by 1000003", 0, great().term(0, 0, BY));
        due("REST of 1000003 by 1000002", 1, great().term(0, 0, BY - 1));
        due("lowest terms, denominator above 0", "-5/2", house(30, -12).convergentText(0, 1));
        due("lowest terms of BEST", "-5/2", house(30, -12).bestText(0, 9999, 0));
        due("lowest terms of 0", "0/1", house(0, -12).bestText(0, 9999, 0));
    }

    /** 1000003, which is 9 * (9 * 12345 + 6) + 4. */
    private static Stepsdown great() {
        Stepsdown x = house(12345, 1);
        int[][] steps = {{9, 6}, {9, 0}, {1, 4}};
        for (int[] step : steps) {
            x.map(0, step[0], step[1], 0, 1);
            x.remove(0);
        }
        return x;
    }

    /** An object is used for 512 calls: the last one answers as all others do. */
    private static void lastCalls() {
        Stepsdown knocked = new Stepsdown();
        for (int call = 1; call <= 512; call++) {
            due("knock", call, knocked.knock());
        }
        Stepsdown pushed = new Stepsdown();
        for (int call = 1; call <= 255; call++) {
            due("push", 1, pushed.push(call % 99));
            due("pop", call % 99, pushed.pop());
        }
        due("call 511", 8, pushed.house(2));
        due("call 512", 7, pushed.undo());
        Stepsdown grown = house(1, 1);
        for (int call = 1; call <= 255; call++) {
            due("map", 1, grown.map(0, 9, 0, 0, 1));
            due("remove", 1, grown.remove(0));
        }
        due("call 512, terms", BigInteger.valueOf(9).pow(255).toString(), grown.terms(0));
        Stepsdown grownText = house(1, 1);
        for (int call = 1; call <= 255; call++) {
            grownText.map(0, -9, 0, 0, 1);
            grownText.remove(0);
        }
        due("call 512, convergentText", BigInteger.valueOf(-9).pow(255) + "/1", grownText.convergentText(0, 0));
        Stepsdown shrunk = house(1, 1);
        for (int call = 1; call <= 255; call++) {
            shrunk.map(0, 1, 0, 0, 9);
            shrunk.remove(0);
        }
        due("call 512, a small one", "1/" + BigInteger.valueOf(9).pow(255), shrunk.convergentText(0, 1));
        Stepsdown same = house(45, 16, -7, 2);
        long first = same.digest();
        for (int call = 4; call <= 512; call++) {
            due("digest", first, same.digest());
        }
    }

    /** The TERMS of over / under by Euclid's way; under is above 0. */
    private static String euclid(BigInteger over, BigInteger under) {
        StringBuilder text = new StringBuilder();
        BigInteger p = over;
        BigInteger q = under;
        while (q.signum() != 0) {
            BigInteger rest = p.mod(q);
            text.append(text.length() > 0 ? " " : "").append(p.subtract(rest).divide(q));
            p = q;
            q = rest;
        }
        return text.toString();
    }

    /** Whole numbers of any size: a fraction of 48 digits and more, mapped again and again. */
    private static void greatFractions() {
        Stepsdown x = new Stepsdown();
        BigInteger p = BigInteger.ONE;
        BigInteger q = BigInteger.ZERO;
        for (int k = 0; k < 24; k++) {
            x.push(99 - k % 3);
        }
        for (int k = 23; k >= 0; k--) {
            BigInteger next = p.multiply(BigInteger.valueOf(99 - k % 3)).add(q);
            q = p;
            p = next;
        }
        x.finish();
        int[][] maps = {{2, 0, 0, 1}, {-3, 7, 1, 9}, {9, -8, 0, 5}, {1, 1, -7, 2}, {0, 5, 3, 1}, {8, 9, 1, 1}, {-1, 0, 0, 9}};
        for (int[] map : maps) {
            due("terms of a great fraction", euclid(p, q), x.terms(0));
            int last = x.ofRow(0, 1) - 1;
            due("its last CONVERGENT is it", 0, last > 60 ? 0 : x.side(0, last));
            due("it is sound", true, x.isSound());
            due("a map of it", 1, x.map(0, map[0], map[1], map[2], map[3]));
            BigInteger over = p.multiply(BigInteger.valueOf(map[0])).add(q.multiply(BigInteger.valueOf(map[1])));
            BigInteger under = p.multiply(BigInteger.valueOf(map[2])).add(q.multiply(BigInteger.valueOf(map[3])));
            p = under.signum() < 0 ? over.negate() : over;
            q = under.abs();
            due("and back", 2, x.map(1, map[3], -map[1], -map[2], map[0]));
            due("is the same", 0, x.compare(0, 2));
            x.remove(0);
            x.remove(1);
        }
        due("terms of a great fraction", euclid(p, q), x.terms(0));
    }

    /** From (1 + root of 5) / 2 to a number with a root of 24 digits, whose row stays short. */
    private static void greatRoots() {
        int[][] maps = {{-7, -6, 2, -7}, {1, 6, -9, -7}, {-7, -1, -1, -6}, {1, 5, -6, 1}, {7, 8, -5, -9}, {-3, 1, 7, -6},
            {-7, -7, -2, -3}, {-5, -3, 0, 1}, {-3, -9, 0, 1}, {-3, 9, -2, 5}};
        Stepsdown x = rooted(1, 5, 2);
        for (int[] map : maps) {
            due("a map of it", 1, x.map(0, map[0], map[1], map[2], map[3]));
            due("and back", 2, x.map(1, map[3], -map[1], -map[2], map[0]));
            due("is the same", 0, x.compare(0, 2));
            x.remove(0);
            x.remove(1);
            due("it is sound", true, x.isSound());
        }
        due("terms", "1 2 8 1 3 698 (12 1 4 2 33 6 9 3 11 4 1 8 1 6 3 1 1 1 3 3 2 13 2 1 27 2 1 6 1 1 6 1 2 3 2 5 1 4 7 12 39 2 8"
                + " 1 2 2 2 9 1 9 1 1 1 2 2 3 4 2 3 1 1 1 1 15 4 3 4 3 1 1 1 1 8 1 3 1 1 7 1 1 1 2 3 1 239 2 9 2 1 9 1 1 4 697)",
                x.terms(0));
        due("it stays the same, mapped by 1", 1, x.map(0, 1, 0, 0, 1));
        due("and compared", 0, x.compare(0, 1));
        for (int k = 0; k <= 60; k++) {
            due("side " + k, k % 2 == 0 ? 1 : -1, x.side(0, k));
            due("cross " + k, k % 2 == 0 ? -1 : 1, x.cross(0, k));
        }
    }

    // 1. Rows

    private static void rowsAreNumberedAsTheyCame() {
        Stepsdown x = new Stepsdown();
        for (int number = 0; number < 8; number++) {
            due("the number of a row", number, x.fraction(number * number, 1));
        }
        fails("a ninth row", IllegalStateException.class, x, h -> h.fraction(81, 1));
        due("remove 3", 7, x.remove(3));
        due("rows then", "0;1;4;16;25;36;49;", rows(x));
        due("remove 0", 6, x.remove(0));
        due("rows then", "1;4;16;25;36;49;", rows(x));
        due("remove 5", 5, x.remove(5));
        due("rows then", "1;4;16;25;36;", rows(x));
        due("the next number", 5, x.root(0, 2, 1));
        x.push(64);
        due("the number after it", 6, x.finish());
        due("the number after that", 7, x.map(0, 9, 0, 0, 1));
        due("rows then", "1;4;16;25;36;1 (2);64;9;", rows(x));
    }

    private static void rowsNeverChange() {
        Stepsdown x = house(45, 16);
        x.root(0, 7, 1);
        String fraction = "2 1 4 3";
        String root = "2 (1 1 1 4)";
        x.map(0, 9, -9, 2, 5);
        x.map(1, -9, 9, 5, 2);
        x.machine(0, 0, 1, 1, 0, 20);
        x.machine(1, 0, 1, 1, 0, 20);
        x.calendar(1, 50);
        x.best(1, 9999, 0, true, 10);
        due("a fraction stays", fraction, x.terms(0));
        due("a root stays", root, x.terms(1));
        x.remove(2);
        x.undo();
        x.undo();
        due("a fraction stays, undone", fraction, x.terms(0));
        due("a root stays, undone", root, x.terms(1));
        x.remove(0);
        due("a root stays, with another number", root, x.terms(0));
        due("its period", 4, x.ofRow(0, 3));
    }

    private static void same(String what, String terms, Stepsdown x) {
        for (int row = 0; row < x.house(0); row++) {
            due(what + " " + row, terms, x.terms(row));
            due(what + " compared", 0, x.compare(row, 0));
            due(what + " and its tail", true, x.sameTail(0, row));
        }
    }

    private static void oneRowOfTermsForEachNumber() {
        Stepsdown x = house(3, 2, -3, -2, 6, 4);
        x.push(1);
        x.push(2);
        x.finish();
        x.push(1);
        x.push(1);
        x.push(1);
        x.finish();
        x.map(0, 2, 0, 0, 2);
        x.map(0, -1, 0, 0, -1);
        x.map(0, 0, 9, 4, 0);
        same("3/2", "1 2", x);
        Stepsdown r = rooted(0, 2, 1);
        r.root(0, 8, 2);
        r.root(0, 18, 3);
        r.root(0, 72, 6);
        r.map(0, -2, 0, 0, -2);
        r.map(0, 0, 2, 1, 0);
        r.map(0, 2, 0, 0, 2);
        same("the root of 2", "1 (2)", r);
        Stepsdown below = rooted(0, 2, -1);
        below.root(0, 98, -6);
        below.map(1, 6, 0, 0, 7);
        below.remove(1);
        below.root(0, 50, -5);
        below.map(0, 0, 2, 1, 0);
        same("the root of 2, below 0", "-2 1 1 (2)", below);
    }

    private static void termsOfFractions() {
        int[] wholes = {0, 1, -1, 7, -7, 99999, -99999};
        for (int whole : wholes) {
            Stepsdown x = house(whole, 1);
            due("TERM 0 alone", "" + whole, x.terms(0));
            due("LONG", 1, x.ofRow(0, 1));
            due("its sign", Integer.signum(whole), x.ofRow(0, 4));
            fails("TERM 1", IndexOutOfBoundsException.class, x, h -> h.term(0, 1, 10));
        }
        for (int p = -40; p <= 40; p++) {
            for (int q = 1; q <= 13; q++) {
                Stepsdown x = house(p, q, -p, -q);
                String[] terms = x.terms(0).split(" ");
                due("TERM 0 of " + p + "/" + q, Math.floorDiv(p, q), Integer.valueOf(terms[0]));
                boolean isRight = true;
                for (int k = 1; k < terms.length; k++) {
                    isRight &= Integer.parseInt(terms[k]) >= (k == terms.length - 1 ? 2 : 1);
                }
                due("later TERMS of " + p + "/" + q, true, isRight);
                due("LONG by as many TERMS", terms.length, x.ofRow(0, 1));
                due("the last CONVERGENT is x", 0, x.against(0, p, q));
                due("both signs turned", 0, x.compare(0, 1));
            }
        }
    }

    private static List<String> parts(String terms) {
        List<String> all = new ArrayList<>();
        for (String part : terms.replace("(", "").replace(")", "").split(" ")) {
            all.add(part);
        }
        return all;
    }

    /** No lesser BEGIN and no lesser PERIOD would do, and the TERMS told by number are those of the text. */
    private static void leastBeginAndPeriod() {
        for (int d = 2; d <= 199; d++) {
            int floor = (int) Math.sqrt(d);
            for (int p = -3; p <= 3 && floor * floor != d; p++) {
                Stepsdown x = rooted(p, d, 1 + d % 6);
                List<String> terms = parts(x.terms(0));
                int begin = x.ofRow(0, 2);
                int period = x.ofRow(0, 3);
                due("LONG by BEGIN and PERIOD", begin + period, x.ofRow(0, 1));
                due("TERMS told", begin + period, terms.size());
                due("no lesser BEGIN", true, begin == 0 || !terms.get(begin - 1).equals(terms.get(begin + period - 1)));
                due("no lesser PERIOD", period, leastTurn(terms.subList(begin, begin + period)));
                for (int k = 0; k < 3; k++) {
                    String later = "" + x.term(0, begin + period + k, BY);
                    due("TERM k + PERIOD", terms.get(begin + k % period), later);
                }
            }
        }
    }

    private static int leastTurn(List<String> terms) {
        for (int turn = 1; turn < terms.size(); turn++) {
            boolean isSame = true;
            for (int k = 0; k < terms.size(); k++) {
                isSame &= terms.get(k).equals(terms.get((k + turn) % terms.size()));
            }
            if (isSame) {
                return turn;
            }
        }
        return terms.size();
    }

    private static void begun(String terms, int begin, int period, int mirrored, Stepsdown x) {
        due("terms", terms, x.terms(0));
        due("BEGIN of " + terms, begin, x.ofRow(0, 2));
        due("PERIOD of " + terms, period, x.ofRow(0, 3));
        due("LONG of " + terms, begin + period, x.ofRow(0, 1));
        due("both ways of " + terms, mirrored, x.ofRow(0, 5));
    }

    private static void beginsAndPeriods() {
        begun("(1)", 0, 1, 1, rooted(1, 5, 2));
        begun("(2)", 0, 1, 1, rooted(1, 2, 1));
        begun("1 (2)", 1, 1, 1, rooted(0, 2, 1));
        begun("0 1 (2)", 2, 1, 1, rooted(0, 2, 2));
        begun("0 (1)", 1, 1, 1, rooted(-1, 5, 2));
        begun("(2 1)", 0, 2, 1, rooted(1, 3, 1));
        begun("(1 2)", 0, 2, 1, rooted(1, 3, 2));
        begun("-1 (1 2)", 1, 2, 1, rooted(-2, 3, 1));
        begun("(1 1 1 4)", 0, 4, 1, rooted(2, 7, 3));
        begun("(1 4 1 1)", 0, 4, 1, rooted(1, 7, 3));
        begun("(1 1 4 1)", 0, 4, 0, rooted(1, 7, 2));
        begun("(4 1 1 1)", 0, 4, 0, rooted(2, 7, 1));
        begun("-3 2 (1 4 1 1)", 2, 4, 1, rooted(0, 7, -1));
        due("a FRACTION has no BEGIN", -1, house(1, 2).ofRow(0, 2));
        due("a FRACTION has no PERIOD", -1, house(1, 2).ofRow(0, 3));
        due("a FRACTION reads no way", -1, house(1, 2).ofRow(0, 5));
    }

    private static void draftsThatEndWithOne() {
        int[][] told = {{0}, {-99}, {99}, {0, 1}, {5, 1}, {-1, 1}, {-99, 1}, {0, 1, 1}, {5, 1, 1}, {-1, 1, 1}, {2, 3, 1},
            {2, 1, 1, 1}, {0, 99, 1}};
        String[] due = {"0", "-99", "99", "1", "6", "0", "-98", "0 2", "5 2", "-1 2", "2 4", "2 1 2", "0 100"};
        for (int each = 0; each < told.length; each++) {
            due("what the draft makes", due[each], finished(told[each]).terms(0));
        }
        Stepsdown x = new Stepsdown();
        for (int k = 0; k < 24; k++) {
            due("push", k + 1, x.push(1));
        }
        x.finish();
        due("24 ones", "1 1 1 1 1 1 1 1 1 1 1 1 1 1 1 1 1 1 1 1 1 1 2", x.terms(0));
        due("they make", "75025/46368", x.convergentText(0, 22));
    }

    private static void draftsThatBeginAgain() {
        Stepsdown x = new Stepsdown();
        x.push(-9);
        due("a later term below 0 is none", 1, x.house(1));
        fails("a later term below 0", IllegalArgumentException.class, x, h -> h.push(-9));
        due("pop it", -9, x.pop());
        due("the first term again", 1, x.push(-99));
        x.finish();
        due("the first term after finish", 1, x.push(-98));
        due("undo it", 4, x.undo());
        due("the first term after undo", 1, x.push(0));
        x.undo();
        x.undo();
        due("the draft ahead of finish", "-99 ", draft(x));
        fails("its next term is a later one", IllegalArgumentException.class, x, h -> h.push(0));
        due("its next term", 2, x.push(1));
        Stepsdown full = new Stepsdown();
        for (int k = 0; k < 24; k++) {
            full.push(2);
        }
        fails("a 25th", IllegalStateException.class, full, h -> h.push(1));
        full.pop();
        due("a 24th again", 24, full.push(3));
        full.finish();
        due("24 terms", 24, full.ofRow(0, 1));
        due("a first one again", 1, full.push(-1));
    }

    // 2. Convergents

    private static void convergents() {
        Stepsdown x = house(-45, 16, 0, 1, -7, 1);
        due("terms of -45/16", "-3 5 3", x.terms(0));
        due("CONVERGENT 0", "-3/1", x.convergentText(0, 0));
        due("CONVERGENT 1", "-14/5", x.convergentText(0, 1));
        due("CONVERGENT 2", "-45/16", x.convergentText(0, 2));
        fails("CONVERGENT 3", IndexOutOfBoundsException.class, x, h -> h.convergentText(0, 3));
        due("CONVERGENT 0 of 0", "0/1", x.convergentText(1, 0));
        due("CONVERGENT 0 of -7", "-7/1", x.convergentText(2, 0));
        for (int row = 0; row <= 2; row++) {
            due("P(0) * 0 - 1 * 1", -1, x.cross(row, 0));
            due("Q(0)", 1, x.convergent(row, 0, true, 10));
        }
        Stepsdown r = rooted(1, 5, 2);
        BigInteger before = BigInteger.ONE;
        BigInteger value = BigInteger.ONE;
        for (int k = 0; k <= 60; k++) {
            due("CONVERGENT " + k, value + "/" + before, r.convergentText(0, k));
            due("P by 1000003", value.mod(BigInteger.valueOf(BY)).intValue(), r.convergent(0, k, false, BY));
            due("Q by 999", before.mod(BigInteger.valueOf(999)).intValue(), r.convergent(0, k, true, 999));
            due("cross " + k, k % 2 == 0 ? -1 : 1, r.cross(0, k));
            due("side " + k, k % 2 == 0 ? 1 : -1, r.side(0, k));
            BigInteger next = value.add(before);
            before = value;
            value = next;
        }
        fails("CONVERGENT 61", IndexOutOfBoundsException.class, r, h -> h.convergentText(0, 61));
    }

    private static void sidesOfRootsOverLessThanZero() {
        int[] radicands = {2, 3, 5, 7};
        for (int d : radicands) {
            for (int q = -6; q <= 6; q++) {
                for (int p = -7; p <= 7 && q != 0; p++) {
                    Stepsdown x = rooted(p, d, q);
                    for (int k = 0; k <= 8; k++) {
                        due("side " + k + " of " + p + " " + d + " " + q, k % 2 == 0 ? 1 : -1, x.side(0, k));
                    }
                    due("it is sound", true, x.isSound());
                }
            }
        }
    }

    // 3. Best fractions

    private static void tied(String want, Stepsdown x, int most, int kind) {
        due("BEST up to " + most + " of KIND " + kind, want, x.bestText(0, most, kind));
        String[] parts = want.split("/");
        int b = Integer.parseInt(parts[1]);
        due("a of it", Math.floorMod(Integer.parseInt(parts[0]), BY), x.best(0, most, kind, false, BY));
        due("b of it", b, x.best(0, most, kind, true, BY));
        due("it is so", true, x.isBest(0, Integer.parseInt(parts[0]), b, kind));
        due("and another is not", false, x.isBest(0, Integer.parseInt(parts[0]) + 1, b, kind));
    }

    private static void tiesOfKindZero() {
        tied("0/1", house(1, 2), 1, 0);
        tied("-1/1", house(-1, 2), 1, 0);
        tied("3/1", house(7, 2), 1, 0);
        tied("-4/1", house(-7, 2), 1, 0);
        tied("0/1", house(1, 4), 2, 0);
        tied("1/3", house(1, 4), 3, 0);
        tied("1/1", house(3, 4), 1, 0);
        tied("1/1", house(3, 4), 2, 0);
        tied("2/3", house(3, 4), 3, 0);
        tied("-1/1", house(-3, 4), 2, 0);
        tied("0/1", house(1, 6), 3, 0);
        tied("1/4", house(1, 6), 4, 0);
        tied("0/1", house(-1, 6), 3, 0);
        tied("1/2", house(9, 20), 2, 0);
        tied("1/2", house(5, 12), 2, 0);
        tied("1/2", house(5, 12), 4, 0);
        tied("2/5", house(5, 12), 5, 0);
        tied("2/5", house(21, 50), 5, 0);
        tied("3/7", house(21, 50), 7, 0);
    }

    private static void tiesOfKindOne() {
        tied("0/1", house(1, 2), 1, 1);
        tied("-1/1", house(-1, 2), 1, 1);
        tied("3/1", house(7, 2), 1, 1);
        tied("0/1", house(1, 3), 2, 1);
        tied("1/1", house(2, 3), 2, 1);
        tied("1/2", house(2, 5), 4, 1);
        tied("2/5", house(2, 5), 5, 1);
        tied("0/1", house(1, 9), 8, 1);
        tied("-1/1", house(-8, 9), 8, 1);
        tied("1/2", house(4, 7), 6, 1);
        tied("4/7", house(4, 7), 9999, 1);
    }

    private static void kinds() {
        Stepsdown x = house(1, 60);
        for (int most = 1; most <= 59; most++) {
            due("KIND 0 of 1/60 up to " + most, most <= 30 ? "0/1" : "1/" + most, x.bestText(0, most, 0));
            due("KIND 1 of 1/60 up to " + most, "0/1", x.bestText(0, most, 1));
        }
        due("KIND 0 of 1/60 up to 60", "1/60", x.bestText(0, 60, 0));
        due("KIND 1 of 1/60 up to 60", "1/60", x.bestText(0, 60, 1));
        due("KIND 0, unlike ones", 31, x.bests(0, 60, 0));
        due("KIND 1, unlike ones", 2, x.bests(0, 60, 1));
        Stepsdown lies = house(2, 9);
        String[] zero = {"0/1", "0/1", "1/3", "1/4", "1/5", "1/5", "1/5", "1/5", "2/9"};
        String[] one = {"0/1", "0/1", "0/1", "1/4", "1/4", "1/4", "1/4", "1/4", "2/9"};
        for (int most = 1; most <= 9; most++) {
            due("KIND 0 of 2/9 up to " + most, zero[most - 1], lies.bestText(0, most, 0));
            due("KIND 1 of 2/9 up to " + most, one[most - 1], lies.bestText(0, most, 1));
        }
    }

    /** Of all b up to the bound, and the a next to b * x, exactly in longs: |b * p - a * q| over b, or as it is. */
    private static String tryAll(int p, int q, int most, int kind) {
        long bestA = 0;
        long bestB = 0;
        long bestFar = 0;
        for (int b = 1; b <= most; b++) {
            long below = Math.floorDiv((long) b * p, (long) q);
            for (long a = below; a <= below + 1; a++) {
                long far = Math.abs((long) b * p - a * q);
                boolean isNearer = kind == 1 ? far < bestFar : far * bestB < bestFar * b;
                if (bestB == 0 || isNearer) {
                    bestA = a;
                    bestB = b;
                    bestFar = far;
                }
            }
        }
        return bestA + "/" + bestB;
    }

    private static void bestByTryingAll() {
        for (int q = 1; q <= 16; q++) {
            for (int p = -q; p <= 2 * q; p++) {
                Stepsdown x = house(p, q);
                for (int most = 1; most <= q + 1; most++) {
                    due("BEST of " + p + "/" + q + " up to " + most, tryAll(p, q, most, 0), x.bestText(0, most, 0));
                    due("KIND 1 of " + p + "/" + q + " up to " + most, tryAll(p, q, most, 1), x.bestText(0, most, 1));
                }
            }
        }
    }

    private static void geared(String want, int p, int q, int least, int most) {
        Stepsdown x = house(p, q);
        due("GEARS for " + p + "/" + q, want, x.gears(0, least, most, false) + "/" + x.gears(0, least, most, true));
    }

    private static void tiesOfGears() {
        geared("2/2", 5, 4, 2, 3);
        geared("2/2", 1, 1, 2, 9);
        geared("12/24", 1, 2, 12, 40);
        geared("24/12", 2, 1, 12, 40);
        geared("1/1", 3, 2, 1, 1);
        geared("1/1", 1, 1, 1, 40);
        geared("3/2", 7, 4, 2, 3);
        geared("2/3", 2, 3, 2, 3);
        geared("2/4", 9, 20, 2, 4);
        geared("1/40", 0, 1, 1, 40);
        geared("1/40", -9999, 1, 1, 40);
        geared("40/1", 99999, 1, 1, 40);
        geared("40/1", 40, 1, 1, 40);
        geared("1/40", 1, 40, 1, 40);
        for (int q = 1; q <= 12; q++) {
            for (int p = -1; p <= 30; p++) {
                geared(gearsByTryingAll(p, q, 2, 7), p, q, 2, 7);
            }
        }
    }

    private static String gearsByTryingAll(int p, int q, int least, int most) {
        long bestA = 0;
        long bestB = 0;
        for (int b = least; b <= most; b++) {
            for (int a = least; a <= most; a++) {
                long far = Math.abs((long) b * p - (long) a * q);
                if (bestB == 0 || far * bestB < Math.abs(bestB * p - bestA * q) * b) {
                    bestA = a;
                    bestB = b;
                }
            }
        }
        return bestA + "/" + bestB;
    }

    // 4. Out of another one

    private static void outOfAnother() {
        for (int c = -9; c <= 9; c++) {
            Stepsdown r = rooted(0, 2, 1);
            Stepsdown x = house(-2, 3);
            for (int d = -9; d <= 9; d++) {
                boolean isRight = c != 0 || d != 0;
                int a = d != 0 ? 1 : 0;
                int b = d != 0 ? 0 : 1;
                if (isRight) {
                    due("c * x + d of a root is never 0", true, r.machine(0, a, b, c, d, 0) >= 0);
                    due("c * x + d of -2/3", 3 * d == 2 * c, x.machine(0, a, b, c, d, 0) == -9);
                    due("a row by it", 3 * d == 2 * c, x.house(0) == 1 && x.map(0, a, b, c, d) == -9);
                    if (x.house(0) > 1) {
                        x.remove(1);
                    }
                }
            }
        }
        Stepsdown made = house(-2, 3);
        due("(x + 1) / (3 * x + 1)", 1, made.map(0, 1, 1, 3, 1));
        due("its terms", "-1 1 2", made.terms(1));
        due("the other stays", "-1 3", made.terms(0));
        due("back again", 2, made.map(1, 1, -1, -3, 1));
        due("it is the same", 0, made.compare(0, 2));
        Stepsdown back = rooted(3, 61, 5);
        back.map(0, 3, 4, 2, 3);
        back.map(1, 3, -4, -2, 3);
        due("a root, and back", 0, back.compare(0, 2));
    }

    private static void tails() {
        Stepsdown x = rooted(0, 7, 1);
        x.root(2, 7, 3);
        x.root(1, 7, 3);
        x.root(1, 7, 2);
        x.root(0, 28, 1);
        x.fraction(1, 2);
        x.fraction(-3, 1);
        for (int row = 0; row < 7; row++) {
            for (int other = 0; other < 7; other++) {
                boolean isSame = row <= 3 && other <= 3 || row == 4 && other == 4 || row >= 5 && other >= 5;
                due("tails of " + row + " and " + other, isSame, x.sameTail(row, other));
            }
        }
        Stepsdown ones = rooted(1, 5, 2);
        ones.root(0, 2, 1);
        ones.root(0, 5, 1);
        ones.root(3, 5, 2);
        String[] tails = {"1", "2", "4", "1"};
        for (int row = 0; row < 4; row++) {
            for (int other = 0; other < 4; other++) {
                due("tails of a PERIOD of 1", tails[row].equals(tails[other]), ones.sameTail(row, other));
            }
        }
        Stepsdown turned = rooted(0, 61, 1);
        turned.map(0, 1, 7, 0, 1);
        turned.map(0, 0, 1, 1, 0);
        turned.map(0, 5, 4, 4, 3);
        turned.map(0, -1, 0, 0, 1);
        turned.map(0, 2, 0, 0, 1);
        boolean[] same = {true, true, true, true, true, false};
        for (int row = 0; row < 6; row++) {
            due("tail of a map " + row, same[row], turned.sameTail(0, row));
            due("tail of a map, the other way " + row, same[row], turned.sameTail(row, 0));
        }
    }

    // 5. Fence and calendar

    private static void fences() {
        Stepsdown x = house(-5, 3, 5, 3, 0, 1, -4, 1);
        x.root(0, 2, -1);
        int[][] posts = {{0, -2, -4, -5, -7, -9, -10}, {0, 1, 3, 5, 6, 8, 10}, {0, 0, 0, 0, 0, 0, 0},
            {0, -4, -8, -12, -16, -20, -24}, {0, -2, -3, -5, -6, -8, -9}};
        for (int row = 0; row < 5; row++) {
            StringBuilder fence = new StringBuilder();
            int many = 0;
            for (int k = 0; k < 6; k++) {
                int step = posts[row][k + 1] - posts[row][k] - posts[row][1];
                due("POST", Math.floorMod(posts[row][k], BY), x.post(row, k, BY));
                due("STEP", step, x.step(row, k));
                fence.append(step);
                many += step;
                due("long ones", many, x.longSteps(row, 0, k));
                due("one of them", step, x.longSteps(row, k, k));
            }
            due("fence", fence.toString(), x.fence(row, 0, 6));
            due("fence of one", fence.substring(5), x.fence(row, 5, 1));
        }
        for (int row = 0; row < 5; row++) {
            int all = x.longSteps(row, 0, 9998);
            int parts = x.longSteps(row, 0, 4999) + x.longSteps(row, 5000, 9998);
            due("all long ones", all, parts);
            int zero = Math.floorMod(posts[row][1], BY);
            due("POST 9999", Math.floorMod(9999L * zero + all, (long) BY), (long) x.post(row, 9999, BY));
        }
    }

    private static void calendars() {
        Stepsdown x = house(5, 2, 0, 1, 99999, 10, 7, 1);
        x.root(0, 7, 1);
        due("none at first", "none", calendar(x));
        due("CYCLE", 2, x.calendar(0, 9999));
        due("COMMON, LEAPS, CYCLE", "2 1/2", calendar(x));
        due("a tie up to 1", 1, x.calendar(0, 1));
        due("goes to the smaller", "2 0/1", calendar(x));
        x.calendar(1, 5);
        due("of 0", "0 0/1", calendar(x));
        x.calendar(2, 1);
        due("all years are leap years", "9999 1/1", calendar(x));
        due("year 0 is one", true, x.isLeap(0));
        due("year 9999 is one", true, x.isLeap(9999));
        due("its DAY", 99990000, x.days(9999));
        due("its last DAY", 9999, x.yearOf(99999999));
        due("no YEAR 10000", -1, x.yearOf(100000000));
        x.calendar(3, 9);
        due("no leap years", "7 0/1", calendar(x));
        due("year 9999 is none", false, x.isLeap(9999));
        x.calendar(4, 14);
        due("of the root of 7", "2 9/14", calendar(x));
        StringBuilder leaps = new StringBuilder();
        int day = 0;
        for (int year = 0; year < 15; year++) {
            due("YEAR begins", day, x.days(year));
            due("its first DAY", year, x.yearOf(day));
            day += x.isLeap(year) ? 3 : 2;
            due("its last DAY", year, x.yearOf(day - 1));
            leaps.append(x.isLeap(year) ? '1' : '0');
        }
        due("leap years", "010110110110110", leaps.toString());
        due("leap years of a cycle", 9, x.days(14) - 28);
    }

    private static String drifts(Stepsdown x) {
        return calendar(x) + " " + x.drift(1) + " " + x.drift(77) + " " + x.drift(9999);
    }

    /** The CALENDAR stays as it is, whatever becomes of its ROW. */
    private static void calendarsStay() {
        Stepsdown x = house(1, 3);
        x.root(0, 7, 1);
        x.calendar(1, 5);
        String before = "2 2/3 -65 127 20913";
        due("the CALENDAR", before, drifts(x));
        x.remove(0);
        due("with another number of its ROW", before, drifts(x));
        x.remove(0);
        due("without its ROW", before, drifts(x));
        x.fraction(5, 2);
        x.fraction(-7, 2);
        due("with other ROWS", before, drifts(x));
        x.map(0, 9, 9, 0, 1);
        x.push(4);
        due("with more of them", before, drifts(x));
        x.calendar(0, 1);
        String second = drifts(x);
        due("another one in its place", "2 0/1 -50 -3850 -499950", second);
        x.remove(0);
        due("without its ROW", second, drifts(x));
        x.undo();
        x.undo();
        due("the first one again", before, drifts(x));
        due("the house has it", 1, x.house(4));
    }

    private static void driftsOfFractions() {
        int[] years = {0, 1, 2, 3, 7, 12, 13, 99, 100, 101, 9998, 9999};
        for (int q = 1; q <= 12; q++) {
            for (int p = 0; p <= 2 * q; p++) {
                Stepsdown x = house(p, q);
                for (int most = 1; most <= q; most += 1 + most / 3) {
                    x.calendar(0, most);
                    for (int year : years) {
                        int ahead = x.days(year) * q - p * year;
                        due("drift of " + p + "/" + q, Math.floorDiv(100 * ahead, q), x.drift(year));
                    }
                }
            }
        }
    }

    private static void driftsOfRoots() {
        int[] years = {1, 2, 3, 5, 8, 57, 1000, 9999};
        for (int d = 2; d <= 199; d++) {
            int floor = (int) Math.sqrt(d);
            if (floor * floor == d) {
                continue;
            }
            for (int most = 1; most <= 5; most++) {
                Stepsdown x = rooted(0, d, 1);
                x.calendar(0, most);
                due("drift of year 0", 0, x.drift(0));
                for (int year : years) {
                    // 100 times the root of d, year times, is not whole.
                    BigInteger square = BigInteger.valueOf(10000L * year * year).multiply(BigInteger.valueOf(d));
                    due("drift of the root of " + d, 100 * x.days(year) - square.sqrt().intValue() - 1, x.drift(year));
                }
            }
        }
    }

    private static void calendarsWithDaysOfNone() {
        Stepsdown x = house(0, 1, 1, 4, 9999, 10000 - 1);
        x.calendar(0, 9);
        due("years without days", -1, x.yearOf(0));
        due("all begin with DAY 0", 0, x.days(9999));
        x.calendar(1, 9);
        due("a DAY each four years", 3, x.yearOf(0));
        due("the last DAY", 9999, x.yearOf(2499));
        due("no more", -1, x.yearOf(2500));
        due("year 9999 has it", true, x.isLeap(9999));
        due("year 9998 has none", false, x.isLeap(9998));
    }

    // 6. Answers

    private static void answersByTryingAll() {
        for (int d = 2; d <= 199; d++) {
            int floor = (int) Math.sqrt(d);
            if (floor * floor == d) {
                continue;
            }
            Stepsdown x = new Stepsdown();
            for (int n = -floor; n <= floor; n++) {
                if (n != 0) {
                    compareAnswers(x, d, n);
                }
            }
        }
    }

    private static void compareAnswers(Stepsdown x, int d, int n) {
        int number = 0;
        for (long y = 1; y <= 999; y++) {
            long square = d * y * y + n;
            long root = square <= 0 ? 0 : (long) Math.sqrt(square);
            boolean isAnswer = root > 0 && root * root == square
                    && BigInteger.valueOf(root).gcd(BigInteger.valueOf(y)).intValue() == 1;
            if (isAnswer && number <= 8) {
                due("ANSWER " + number + " of " + d + " " + n, root + "," + y, x.answerText(d, n, number));
                due("x of it", (int) (root % BY), x.answer(d, n, number, false, BY));
                due("y of it", (int) (y % 10), x.answer(d, n, number, true, 10));
            }
            number += isAnswer ? 1 : 0;
        }
        due("ANSWERS with three digits of " + d + " " + n, number, x.answers(d, n, 3));
    }

    private static void answersThatAreNone() {
        Stepsdown x = new Stepsdown();
        due("none of 12 3", 0, x.answers(12, 3, 20));
        due("18 * 18 - 20 * 4 * 4 is 4, but 2 is a common divisor", 0, x.answers(20, 4, 20));
        due("none of 3 -1", "", x.answerText(3, -1, 0));
        due("none of 3 -1, a number", -1, x.answer(3, -1, 0, true, 1));
        due("y of 1 digit", 2, x.answers(3, 1, 1));
        due("y of 2 digits", 4, x.answers(3, 1, 2));
        due("y 1, then 20", "199,20", x.answerText(99, 1, 1));
        due("y of 1 digit, then one of 2", 1, x.answers(99, 1, 1));
    }

    // 7. Undoing

    private static void stepsBack() {
        Stepsdown x = new Stepsdown();
        for (int term = 1; term <= 9; term++) {
            x.push(term);
            due("steps back kept", Math.min(8, term), x.house(2));
        }
        for (int left = 7; left >= 0; left--) {
            due("undo", left, x.undo());
            due("terms then", left + 1, x.house(1));
        }
        fails("the ninth is forgotten", IllegalStateException.class, x, Stepsdown::undo);
        due("the draft then", "1 ", draft(x));
        x.push(20);
        x.push(30);
        due("undo one", 1, x.undo());
        x.push(40);
        due("one in its place", 2, x.house(2));
        due("undo it", 1, x.undo());
        due("the draft then", "1 20 ", draft(x));
        due("undo the one ahead of that", 0, x.undo());
        due("the draft then", "1 ", draft(x));
        for (int term = 2; term <= 9; term++) {
            x.push(term);
        }
        x.undo();
        x.undo();
        x.undo();
        for (int term = 50; term <= 53; term++) {
            x.push(term);
        }
        due("with a ninth the oldest one is forgotten", 8, x.house(2));
        for (int left = 7; left >= 0; left--) {
            x.undo();
        }
        due("the draft then", "1 2 ", draft(x));
    }

    private static void undone(String what, Stepsdown x, Change change) {
        String before = all(x);
        int steps = x.house(2);
        change.to(x);
        due(what + " is a STEP BACK", Math.min(8, steps + 1), x.house(2));
        due(what + " changes", false, before.equals(all(x)));
        due("undo of " + what, Math.min(8, steps + 1) - 1, x.undo());
        due(what + " undone", before, all(x));
    }

    private static void stepsBackOfEachKind() {
        for (int pushes = 2; pushes <= 8; pushes++) {
            Stepsdown x = new Stepsdown();
            x.fraction(45, 16);
            x.root(0, 7, 1);
            x.calendar(1, 50);
            for (int push = 0; push < pushes; push++) {
                x.push(3);
            }
            undone("fraction", x, h -> h.fraction(3, 2));
            undone("root", x, h -> h.root(0, 2, 1));
            undone("push", x, h -> h.push(9));
            undone("pop", x, Stepsdown::pop);
            undone("finish", x, Stepsdown::finish);
            undone("map", x, h -> h.map(1, 9, 1, 0, 1));
            undone("remove", x, h -> h.remove(0));
            undone("remove of the last", x, h -> h.remove(1));
            undone("calendar", x, h -> h.calendar(0, 50));
        }
        Stepsdown first = house(7, 3);
        undone("the first calendar", first, h -> h.calendar(0, 5));
        Stepsdown full = house(1, 2, 1, 3, 1, 4, 1, 5, 1, 6, 1, 7, 1, 8, 1, 9);
        undone("remove of 8", full, h -> h.remove(3));
        fails("still 8", IllegalStateException.class, full, h -> h.fraction(1, 1));
    }

    private static void whatIsNoStepBack() {
        Stepsdown x = house(1, 2);
        x.fraction(1, 0);
        x.root(0, 2, 0);
        x.root(0, -1, 1);
        x.pop();
        x.map(0, 1, 0, 2, -1);
        due("what is REFUSED", 1, x.house(2));
        fails("fraction", IllegalArgumentException.class, x, h -> h.fraction(100000, 1));
        fails("root", IllegalArgumentException.class, x, h -> h.root(0, 4, 1));
        fails("push", IllegalArgumentException.class, x, h -> h.push(100));
        fails("finish", IllegalStateException.class, x, Stepsdown::finish);
        fails("map", IllegalArgumentException.class, x, h -> h.map(0, 0, 0, 0, 0));
        fails("remove", IndexOutOfBoundsException.class, x, h -> h.remove(1));
        fails("calendar", IllegalArgumentException.class, x, h -> h.calendar(0, 0));
        due("what throws", 1, x.house(2));
        x.knock();
        due("a knock", 1, x.house(2));
        due("undo", 0, x.undo());
        due("what was undone is none", 0, x.house(2));
        fails("undo", IllegalStateException.class, x, Stepsdown::undo);
        due("an undo that throws", 0, x.house(2));
    }

    private static void knocks() {
        Stepsdown x = new Stepsdown();
        due("none at first", 0, x.house(3));
        due("the first", 1, x.knock());
        x.fraction(1, 2);
        due("the second", 2, x.knock());
        x.undo();
        due("knocks are not undone", 2, x.house(3));
        due("the third", 3, x.knock());
        fails("nor undone by themselves", IllegalStateException.class, x, Stepsdown::undo);
    }

    // The checksum

    /** What the checksum is made of, asked for by the face alone. */
    private static List<Long> values(Stepsdown x) {
        List<Long> all = new ArrayList<>();
        for (int what = 0; what <= 4; what++) {
            all.add((long) x.house(what));
        }
        int terms = x.house(1);
        for (int k = 0; k < terms; k++) {
            all.add((long) x.draft(k));
        }
        int rows = x.house(0);
        for (int row = 0; row < rows; row++) {
            addRow(all, x, row);
        }
        if (x.house(4) == 1) {
            for (int what = 0; what <= 2; what++) {
                all.add((long) x.ofCalendar(what));
            }
            all.add((long) x.days(400));
            all.add((long) x.drift(400));
        }
        all.add(x.isSound() ? 1L : 0L);
        return all;
    }

    private static void addRow(List<Long> all, Stepsdown x, int row) {
        for (int what = 0; what <= 5; what++) {
            all.add((long) x.ofRow(row, what));
        }
        all.add((long) x.terms(row).length());
        int many = x.ofRow(row, 0) == 1 ? 8 : Math.min(8, x.ofRow(row, 1));
        for (int k = 0; k < many; k++) {
            all.add((long) x.term(row, k, BY));
            all.add((long) x.convergent(row, k, false, BY));
            all.add((long) x.convergent(row, k, true, BY));
        }
        for (int kind = 0; kind <= 1; kind++) {
            all.add((long) x.best(row, 100, kind, false, BY));
            all.add((long) x.best(row, 100, kind, true, BY));
        }
        all.add((long) x.post(row, 100, BY));
        all.add((long) x.longSteps(row, 0, 20));
        all.add((long) x.against(row, 1, 2));
        all.add((long) x.compare(row, 0));
        all.add(x.sameTail(row, 0) ? 1L : 0L);
    }

    /** The sum in whole numbers of any size is the same as the checksum by 2 to the 64th. */
    private static void summed(String what, Stepsdown x, boolean isWrapped) {
        long got = x.digest();
        BigInteger sum = BigInteger.valueOf(4909);
        for (long value : values(x)) {
            sum = sum.multiply(BigInteger.valueOf(31)).add(BigInteger.valueOf(value));
        }
        due("digest of " + what, sum.longValue(), got);
        due("it wraps around", isWrapped, sum.bitLength() > 63);
    }

    private static void digests() {
        due("digest of a new object", 4909L * 31 * 31 * 31 * 31 * 31 * 31 + 1, new Stepsdown().digest());
        summed("a new object", new Stepsdown(), false);
        Stepsdown drafted = new Stepsdown();
        drafted.push(-99);
        summed("a draft", drafted, false);
        for (int term = 1; term <= 23; term++) {
            drafted.push(term);
        }
        summed("a full draft", drafted, true);
        summed("seven terms", finished(-1, 2, 3, 4, 5, 6, 7), true);
        summed("eight terms", finished(1, 2, 3, 4, 5, 6, 7, 8), true);
        summed("nine terms", finished(1, 2, 3, 4, 5, 6, 7, 8, 9), true);
        summed("BEST up to 100", house(1, 99, 1, 100, 1, 101, 2, 201, 2, 199), true);
        summed("STEP 20", house(1, 20, 1, 21, 1, 22, 20, 21, 1, 2), true);
        Stepsdown few = house(0, 1);
        few.calendar(0, 1);
        summed("years without days", few, true);
        digestsOnTheWay();
    }

    /** After each change of a way to a full house and back, each time with a fresh object. */
    private static void digestsOnTheWay() {
        Change[] way = {x -> x.fraction(1, 2), x -> x.fraction(-7, 1), x -> x.fraction(99999, 9998), x -> x.fraction(0, 1),
            x -> x.root(0, 199, 1), x -> x.root(-99, 2, 6), x -> x.push(-5), x -> x.knock(), x -> x.calendar(4, 33),
            x -> x.map(5, -9, 7, 0, 1), x -> x.remove(4), x -> x.finish(), x -> x.fraction(-99999, 9998), x -> x.undo(),
            x -> x.undo(), x -> x.remove(0), x -> x.calendar(1, 9), x -> x.undo(), x -> x.undo()};
        for (int stage = 1; stage <= way.length; stage++) {
            Stepsdown x = new Stepsdown();
            for (int step = 0; step < stage; step++) {
                way[step].to(x);
            }
            summed("stage " + stage, x, true);
        }
    }
}
