import java.util.Arrays;

/** A house of numbers that are told by rows of terms, step by step down. What it promises: ../shared/DOC.md. */
public final class Stepsdown {
    private static final int NONE = -1;
    private static final int REFUSED = -9;
    private static final int MOST_ROWS = 8;
    private static final int MOST_LONG = 120;
    private static final int MOST_DRAFT = 24;
    private static final int MOST_PAST = 8;
    private static final int MOST_BY = 1000003;
    private static final int LAST_TERM = 999;
    private static final int LAST_CONVERGENT = 60;
    private static final int LAST_YEAR = 9999;

    /** A whole number of any size: a sign, and digits by 1000000000, the lowest first. */
    private static final class Big {
        private static final int BASE = 1000000000;
        /** Far above what 512 calls can make, so that no number grows without an end. */
        private static final int MOST_DIGITS = 4096;

        private int[] digits;
        private int size;
        private boolean isBelow;

        Big(int room) {
            digits = new int[Math.max(3, Math.min(room, MOST_DIGITS))];
        }

        int at(int place) {
            return place >= 0 && place < size && place < digits.length ? digits[place] : 0;
        }

        /** Looks past the size too: for sums that are still being made. */
        int raw(int place) {
            return place >= 0 && place < digits.length ? digits[place] : 0;
        }

        void put(int place, int digit) {
            if (place >= 0 && place < digits.length) {
                digits[place] = digit;
            }
        }

        void widen(int wanted) {
            if (wanted > digits.length && wanted <= MOST_DIGITS) {
                digits = Arrays.copyOf(digits, wanted + wanted / 2);
            }
        }

        void settle(int most, boolean below) {
            int left = Math.max(0, Math.min(most, digits.length));
            while (left > 0 && digits[left - 1] == 0) {
                left--;
            }
            size = left;
            isBelow = below && left > 0;
        }

        void setLong(long value) {
            long left = value;
            for (int place = 0; place < 3; place++) {
                put(place, (int) Math.abs(left % BASE));
                left /= BASE;
            }
            settle(3, value < 0);
        }

        /** Sets it to value with so many digits 0 below it; value is 0 or more. */
        void setShifted(long value, int places) {
            widen(places + 3);
            for (int place = 0; place < places; place++) {
                put(place, 0);
            }
            long left = value;
            for (int place = places; place < places + 3; place++) {
                put(place, (int) Math.abs(left % BASE));
                left /= BASE;
            }
            settle(places + 3, false);
        }

        void setTo(Big other) {
            widen(other.size);
            for (int place = 0; place < other.size; place++) {
                put(place, other.at(place));
            }
            settle(other.size, other.isBelow);
        }

        /** A copy that takes no more room than it needs: for what is kept. */
        Big exact() {
            Big made = new Big(size);
            made.setTo(this);
            return made;
        }

        boolean isZero() {
            return size == 0;
        }

        void flip() {
            isBelow = !isBelow && size > 0;
        }

        int sizeOrder(Big other) {
            if (size != other.size) {
                return size < other.size ? -1 : 1;
            }
            int difference = 0;
            for (int place = size - 1; place >= 0 && difference == 0; place--) {
                if (place < digits.length && place < other.digits.length) {
                    difference = digits[place] - other.digits[place];
                }
            }
            return difference == 0 ? 0 : difference < 0 ? -1 : 1;
        }

        int order(Big other) {
            if (isBelow != other.isBelow) {
                return isBelow ? -1 : 1;
            }
            return isBelow ? -sizeOrder(other) : sizeOrder(other);
        }

        void sumOf(Big a, Big b) {
            combine(a, b, b.isBelow);
        }

        void differenceOf(Big a, Big b) {
            combine(a, b, !b.isBelow);
        }

        /** Sets it to a and b together, b told with a sign of its own. Both may be this one. */
        private void combine(Big a, Big b, boolean isBelowB) {
            boolean isAlike = a.isBelow == isBelowB;
            boolean isFirst = isAlike || a.sizeOrder(b) >= 0;
            Big more = isFirst ? a : b;
            Big less = isFirst ? b : a;
            int most = Math.max(a.size, b.size) + 1;
            widen(most);
            int carry = 0;
            for (int place = 0; place < most; place++) {
                int part = less.at(place);
                int sum = more.at(place) + (isAlike ? part : -part) + carry;
                carry = sum >= BASE ? 1 : sum < 0 ? -1 : 0;
                put(place, sum - carry * BASE);
            }
            settle(most, isFirst ? a.isBelow : isBelowB);
        }

        /** The numbers given must be others than this one. */
        void productOf(Big a, Big b) {
            int most = a.size + b.size;
            widen(most);
            for (int place = 0; place < most; place++) {
                put(place, 0);
            }
            for (int low = 0; low < a.size; low++) {
                long factor = a.at(low);
                long carry = 0;
                for (int high = 0; high <= b.size; high++) {
                    long sum = raw(low + high) + factor * b.at(high) + carry;
                    put(low + high, (int) (sum % BASE));
                    carry = sum / BASE;
                }
            }
            settle(most, a.isBelow != b.isBelow);
        }

        /** The number given may be this one; the factor's size is below BASE. */
        void timesOf(Big a, int factor) {
            int most = a.size + 1;
            widen(most);
            long size = Math.abs((long) factor);
            boolean below = a.isBelow != factor < 0;
            long carry = 0;
            for (int place = 0; place < most; place++) {
                long sum = size * a.at(place) + carry;
                put(place, (int) (sum % BASE));
                carry = sum / BASE;
            }
            settle(most, below);
        }

        /** Divides its size by a divisor above 0 and drops what is left over. */
        void shrink(int divisor) {
            if (divisor <= 0) {
                return;
            }
            long over = 0;
            for (int place = size - 1; place >= 0; place--) {
                long head = over * BASE + at(place);
                put(place, (int) (head / divisor));
                over = head % divisor;
            }
            settle(size, isBelow);
        }

        int rest(int by) {
            if (by <= 0) {
                return 0;
            }
            long over = 0;
            for (int place = size - 1; place >= 0; place--) {
                over = (over * BASE + at(place)) % by;
            }
            return (int) (isBelow && over > 0 ? by - over : over);
        }

        /** Exact for a size of up to two digits. */
        long toLong() {
            long value = (long) at(1) * BASE + at(0);
            return isBelow ? -value : value;
        }

        /** Sets it to FLOOR of a / b; over and under are room to work in. All are others than this one. */
        void floorOf(Big a, Big b, Big over, Big under) {
            if (a.size <= 2 && b.size <= 2) {
                long divisor = b.toLong();
                setLong(divisor == 0 ? 0 : Math.floorDiv(a.toLong(), divisor));
                return;
            }
            boolean below = a.isBelow != b.isBelow;
            // Knuth's way guesses digits well only by a divisor whose first digit is half of BASE or more.
            int factor = BASE / (b.at(b.size - 1) + 1);
            over.timesOf(a, factor);
            under.timesOf(b, factor);
            divide(over, under);
            if (below && !over.isZero()) {
                addOne();
            }
            isBelow = below && size > 0;
        }

        /** Sets it to the sizes' over / under and leaves in over what is left. */
        private void divide(Big over, Big under) {
            int many = under.size;
            int first = over.size - many;
            long top = under.at(many - 1);
            long second = under.at(many - 2);
            int most = over.size + 1;
            over.widen(most);
            over.put(most - 1, 0);
            widen(first + 1);
            for (int place = first; place >= 0; place--) {
                long head = (long) over.raw(place + many) * BASE + over.raw(place + many - 1);
                long guess = top <= 0 ? 0 : Math.min(head / top, BASE - 1);
                long left = head - guess * top;
                for (int mend = 0; mend < 2 && left < BASE; mend++) {
                    if (guess * second > left * BASE + over.raw(place + many - 2)) {
                        guess--;
                        left += top;
                    }
                }
                put(place, (int) over.takeTimes(under, guess, place));
            }
            over.settle(most, false);
            settle(first + 1, false);
        }

        /** Takes guess times under off it from place on; tells the guess, one less if it was too much. */
        private long takeTimes(Big under, long guess, int place) {
            int end = Math.min(place + under.size + 1, digits.length);
            int[] part = under.digits;
            long borrow = 0;
            for (int at = Math.max(0, place); at < end; at++) {
                long size = at - place < under.size && at - place < part.length ? part[at - place] : 0;
                long value = digits[at] - guess * size - borrow;
                long digit = Math.floorMod(value, (long) BASE);
                digits[at] = (int) digit;
                borrow = (digit - value) / BASE;
            }
            if (borrow == 0) {
                return guess;
            }
            int carry = 0;
            for (int at = Math.max(0, place); at < end; at++) {
                int size = at - place < under.size && at - place < part.length ? part[at - place] : 0;
                int sum = digits[at] + size + carry;
                carry = sum >= BASE ? 1 : 0;
                digits[at] = sum - carry * BASE;
            }
            return guess - 1;
        }

        /** Adds 1 to its size. */
        private void addOne() {
            int most = size + 1;
            widen(most);
            put(most - 1, 0);
            int carry = 1;
            for (int place = 0; place < most; place++) {
                int sum = raw(place) + carry;
                carry = sum >= BASE ? 1 : 0;
                put(place, carry == 1 ? 0 : sum);
            }
            settle(most, isBelow);
        }

        int decimals() {
            int many = Math.max(0, size - 1) * 9;
            for (int left = at(size - 1); left > 0; left /= 10) {
                many++;
            }
            return many;
        }

        void writeTo(StringBuilder text) {
            if (isBelow) {
                text.append('-');
            }
            text.append(at(size - 1));
            for (int place = size - 2; place >= 0; place--) {
                for (int unit = BASE / 10; unit > 0; unit /= 10) {
                    text.append((char) ('0' + at(place) / unit % 10));
                }
            }
        }
    }

    /** Many TERMS of any size in two arrays; only TERM 0 may be below 0. */
    private static final class Terms {
        private int[] digits;
        private final int[] ends;
        private int count;
        private boolean isBelow;

        Terms(int mostDigits, int mostTerms) {
            digits = new int[Math.max(0, mostDigits)];
            ends = new int[Math.max(0, mostTerms)];
        }

        void clear() {
            count = 0;
            isBelow = false;
        }

        private int startOf(int place) {
            return place > 0 && place < count && place < ends.length ? ends[place - 1] : 0;
        }

        private int endOf(int place) {
            return place >= 0 && place < count && place < ends.length ? ends[place] : 0;
        }

        private int raw(int at) {
            return at >= 0 && at < digits.length ? digits[at] : 0;
        }

        boolean isZeroAt(int place) {
            return startOf(place) == endOf(place);
        }

        boolean isBelowAt(int place) {
            return place == 0 && isBelow;
        }

        void add(Big term) {
            if (count >= ends.length) {
                return;
            }
            int start = endOf(count - 1);
            int end = start + term.size;
            if (end > digits.length) {
                digits = Arrays.copyOf(digits, end + end / 2);
            }
            for (int at = start; at < end && at < digits.length; at++) {
                digits[at] = term.at(at - start);
            }
            if (count == 0) {
                isBelow = term.isBelow;
            }
            ends[count] = end;
            count++;
        }

        /** A copy that takes no more room than it needs: for what is kept. */
        Terms exact() {
            int used = Math.min(endOf(count - 1), digits.length);
            int many = Math.min(count, ends.length);
            Terms made = new Terms(used, many);
            made.isBelow = isBelow;
            made.count = many;
            System.arraycopy(digits, 0, made.digits, 0, used);
            System.arraycopy(ends, 0, made.ends, 0, many);
            return made;
        }

        void read(int place, Big to) {
            int start = startOf(place);
            int size = endOf(place) - start;
            to.widen(size);
            for (int digit = 0; digit < size; digit++) {
                to.put(digit, raw(start + digit));
            }
            to.settle(size, isBelowAt(place));
        }

        int rest(int place, int by) {
            if (by <= 0) {
                return 0;
            }
            int start = startOf(place);
            long over = 0;
            for (int at = endOf(place) - 1; at >= start; at--) {
                over = (over * Big.BASE + raw(at)) % by;
            }
            return (int) (isBelowAt(place) && over > 0 ? by - over : over);
        }

        /** The TERM, or limit if it is above that, or -limit if it is below that. */
        long small(int place, long limit) {
            int start = startOf(place);
            int end = endOf(place);
            long size = end > start + 2 ? limit : 0;
            for (int at = end - 1; at >= start && size < limit; at--) {
                size = size * Big.BASE + raw(at);
            }
            size = Math.min(size, limit);
            return isBelowAt(place) ? -size : size;
        }

        int order(int place, Terms other, int otherPlace) {
            boolean below = isBelowAt(place);
            if (below != other.isBelowAt(otherPlace)) {
                return below ? -1 : 1;
            }
            int start = startOf(place);
            int otherStart = other.startOf(otherPlace);
            int size = endOf(place) - start;
            int difference = size - (other.endOf(otherPlace) - otherStart);
            for (int digit = size - 1; digit >= 0 && difference == 0; digit--) {
                difference = raw(start + digit) - other.raw(otherStart + digit);
            }
            return difference == 0 ? 0 : difference < 0 == below ? 1 : -1;
        }
    }

    /** A ROW: p / q, or (p + root of (p * p + q * r)) / q, with its TERMS. It never changes once it is told. */
    private static final class Row {
        private final boolean isRoot;
        private final Big p;
        private final Big q;
        private final Big r;
        private int begin = NONE;
        private int period = NONE;
        private Terms terms = new Terms(0, 0);

        Row(boolean isRoot, Big p, Big q, Big r) {
            this.isRoot = isRoot;
            this.p = p;
            this.q = q;
            this.r = r;
        }

        /** How many TERMS are held: of a ROOT those up to the end of the first PERIOD. */
        int held() {
            return terms.count;
        }

        /** Where TERM k is held; NONE if there is no TERM k. */
        int place(int k) {
            if (k < 0 || k >= terms.count && !isRoot) {
                return NONE;
            }
            return k < terms.count || period <= 0 ? k : begin + (k - begin) % period;
        }

        boolean has(int k) {
            return place(k) >= 0;
        }

        boolean isLast(int k) {
            return !isRoot && k == terms.count - 1;
        }

        void read(int k, Big to) {
            terms.read(place(k), to);
        }

        int rest(int k, int by) {
            return terms.rest(place(k), by);
        }

        long small(int k, long limit) {
            return terms.small(place(k), limit);
        }

        /** Orders TERM k and the other's TERM; one that is not there counts as endlessly great. */
        int termOrder(int k, Row other, int otherK) {
            boolean isHere = has(k);
            if (!isHere || !other.has(otherK)) {
                return isHere ? -1 : other.has(otherK) ? 1 : 0;
            }
            return terms.order(place(k), other.terms, other.place(otherK));
        }

        int sign() {
            if (terms.isBelowAt(0)) {
                return -1;
            }
            return terms.isZeroAt(0) && isLast(0) ? 0 : 1;
        }

        boolean isMirrored() {
            for (int step = 0; step < period - 1; step++) {
                if (termOrder(begin + step, this, begin + period - 2 - step) != 0) {
                    return false;
                }
            }
            return true;
        }
    }

    /** Steps down from a number, TERM by TERM: p / q, or (p + root of (p * p + q * r)) / q. */
    private static final class Descent {
        /** No row of 512 calls comes near it: a call makes p, q and r at most 324 times as great. */
        private static final int WIDEST = 150;
        private static final int MOST_GUESSES = 4000;

        private final Big p = new Big(32);
        private final Big q = new Big(32);
        private final Big r = new Big(32);
        private final Big root = new Big(32);
        private final Big term = new Big(32);
        private final Big firstP = new Big(32);
        private final Big firstQ = new Big(32);
        private final Big left = new Big(64);
        private final Big right = new Big(64);
        private final Big work = new Big(64);
        private final Big over = new Big(64);
        private final Big under = new Big(64);
        private final Terms told = new Terms(256, MOST_LONG);
        private boolean isRoot;

        void startFraction(int over, int under) {
            int common = commonOf(over, under);
            int divisor = under < 0 ? -common : common;
            isRoot = false;
            p.setLong(divisor == 0 ? over : over / divisor);
            q.setLong(divisor == 0 ? under : under / divisor);
            r.setLong(0);
        }

        void startPair(Big over, Big under) {
            isRoot = false;
            p.setTo(over);
            q.setTo(under);
            r.setLong(0);
        }

        /** Starts at (ahead + root of d) / under, told so that under divides d less ahead squared. */
        void startRoot(int ahead, int d, int under) {
            int size = Math.abs(under);
            int newP = ahead * size;
            int newQ = under * size;
            int newR = under < 0 ? ahead * ahead - d : d - ahead * ahead;
            int common = Math.max(1, commonOf(newP, commonOf(newQ, newR)));
            isRoot = true;
            p.setLong(newP / common);
            q.setLong(newQ / common);
            r.setLong(newR / common);
            findRoot();
        }

        private static int commonOf(int a, int b) {
            int more = Math.abs(a);
            int less = Math.abs(b);
            for (int guard = 0; guard < 64 && less > 0; guard++) {
                int rest = more % less;
                more = less;
                less = rest;
            }
            return more;
        }

        /** Starts at (a * x + b) / (c * x + d); false if there is no such number. */
        boolean startMapped(Row row, int a, int b, int c, int d) {
            int turn = a * d - b * c;
            isRoot = row.isRoot;
            if (isRoot) {
                weigh(q, row, d * d, 2 * c * d, -c * c);
                weigh(p, row, b * d, a * d + b * c, -a * c);
                weigh(r, row, -b * b, -2 * a * b, a * a);
                reduce(turn * turn, turn < 0);
                findRoot();
                return true;
            }
            linear(p, row, a, b);
            linear(q, row, c, d);
            r.setLong(0);
            reduce(Math.abs(turn), q.isBelow);
            return !q.isZero();
        }

        /** Sets to to a times row's p and b times its q. */
        private void linear(Big to, Row row, int a, int b) {
            left.timesOf(row.p, a);
            right.timesOf(row.q, b);
            to.sumOf(left, right);
        }

        /** Sets to to so many times row's q, p and r together. */
        private void weigh(Big to, Row row, int ofQ, int ofP, int ofR) {
            left.timesOf(row.q, ofQ);
            right.timesOf(row.p, ofP);
            work.sumOf(left, right);
            right.timesOf(row.r, ofR);
            to.sumOf(work, right);
        }

        /** Divides by what p, q and r have in common: most is a multiple of that. */
        private void reduce(int most, boolean flips) {
            int common = commonOf(most, p.rest(most));
            common = commonOf(common, q.rest(most));
            common = commonOf(common, r.rest(most));
            p.shrink(common);
            q.shrink(common);
            r.shrink(common);
            if (flips) {
                p.flip();
                q.flip();
                r.flip();
            }
        }

        private void findRoot() {
            left.productOf(p, p);
            right.productOf(q, r);
            work.sumOf(left, right);
            if (work.size <= 2) {
                root.setLong(floorRoot(work.toLong()));
                return;
            }
            int pairs = (work.size - 1) / 2;
            long head = work.at(2 * pairs) + (long) work.at(2 * pairs + 1) * Big.BASE;
            root.setShifted(floorRoot(head) + 1, pairs);
            // Newton's way from above: it falls until it is FLOOR of the root.
            boolean isFalling = true;
            for (int guess = 0; guess < MOST_GUESSES && isFalling; guess++) {
                left.floorOf(work, root, over, under);
                left.sumOf(left, root);
                left.shrink(2);
                isFalling = left.order(root) < 0;
                if (isFalling) {
                    root.setTo(left);
                }
            }
        }

        boolean isOver() {
            return q.isZero();
        }

        /** Tells the next TERM in term and steps down by it. */
        void goDown() {
            if (!isRoot) {
                term.floorOf(p, q, over, under);
                left.productOf(term, q);
                right.differenceOf(p, left);
                p.setTo(q);
                q.setTo(right);
                return;
            }
            // The root is a little above its FLOOR: that tells if it is divided by a number below 0.
            right.setLong(q.isBelow ? 1 : 0);
            left.sumOf(p, root);
            left.sumOf(left, right);
            term.floorOf(left, q, over, under);
            left.productOf(term, q);
            left.differenceOf(left, p);
            right.differenceOf(p, left);
            work.productOf(term, right);
            work.sumOf(work, r);
            r.setTo(q);
            q.setTo(work);
            p.setTo(left);
        }

        /** Whether the TERMS repeat from the first on: the number is above 1, that with -root between -1 and 0. */
        private boolean isPure() {
            if (q.isZero() || q.isBelow || p.order(root) > 0) {
                return false;
            }
            left.sumOf(p, q);
            right.differenceOf(q, p);
            return left.order(root) > 0 && right.order(root) <= 0;
        }

        /** The ROW of the number that was started at; null if it would be too LONG. */
        Row makeRow() {
            if (p.size > WIDEST || q.size > WIDEST || r.size > WIDEST) {
                return null;
            }
            Row row = new Row(isRoot, p.exact(), q.exact(), r.exact());
            told.clear();
            boolean isTold = isRoot ? tellRoot(row) : tellFraction();
            if (!isTold) {
                return null;
            }
            row.terms = told.exact();
            return row;
        }

        private boolean tellFraction() {
            for (int k = 0; k < MOST_LONG && !isOver(); k++) {
                goDown();
                told.add(term);
            }
            return isOver();
        }

        private boolean tellRoot(Row row) {
            int begin = NONE;
            for (int k = 0; k <= MOST_LONG; k++) {
                if (begin >= 0 && p.order(firstP) == 0 && q.order(firstQ) == 0) {
                    row.begin = begin;
                    row.period = k - begin;
                    return true;
                }
                if (begin < 0 && isPure()) {
                    begin = k;
                    firstP.setTo(p);
                    firstQ.setTo(q);
                }
                goDown();
                told.add(term);
            }
            return false;
        }

        /** The sign of row's number less u / v, v above 0. */
        int sideOf(Row row, Big u, Big v) {
            left.productOf(row.p, v);
            right.productOf(u, row.q);
            if (!row.isRoot) {
                return left.order(right);
            }
            // How the root of D, v times, stands to what is left of u * q.
            work.differenceOf(right, left);
            if (work.isBelow) {
                return row.q.isBelow ? -1 : 1;
            }
            over.productOf(work, work);
            left.productOf(row.p, row.p);
            right.productOf(row.q, row.r);
            work.sumOf(left, right);
            left.productOf(work, v);
            right.productOf(left, v);
            return row.q.isBelow ? -right.order(over) : right.order(over);
        }
    }

    /** The FLOOR of the root of n, n below 4 * 10 to the 18th; 0 if n is below 0. */
    private static long floorRoot(long n) {
        long found = 0;
        for (long bit = 1L << 30; bit > 0; bit >>= 1) {
            long next = found + bit;
            if (next * next <= n) {
                found = next;
            }
        }
        return found;
    }

    /** The fractions next to a number x, up to a bound of the denominator; all is told of y, x less TERM 0 of x. */
    private static final class Bracket {
        /** Farther off than any fraction that a call tells. */
        private static final long FAR = 10000000;

        private long whole;
        private long over;
        private long under;
        private long otherOver;
        private long otherUnder;
        private boolean isMet;
        private boolean isLow;
        private long bestOver;
        private long bestUnder;

        /** Finds the last CONVERGENT of y up to the bound, and the fraction next to y on its other side. */
        void narrow(Row row, long bound) {
            whole = row.small(0, FAR);
            over = 0;
            under = 1;
            isLow = true;
            isMet = !row.has(1);
            long overBefore = 1;
            long underBefore = 0;
            for (int k = 1; k <= LAST_TERM && !isMet; k++) {
                // A TERM above the bound does as the bound does: both lead past it.
                long term = row.small(k, bound + 1);
                long nextUnder = term * under + underBefore;
                if (nextUnder > bound) {
                    break;
                }
                long nextOver = term * over + overBefore;
                overBefore = over;
                underBefore = under;
                over = nextOver;
                under = nextUnder;
                isLow = !isLow;
                isMet = !row.has(k + 1);
            }
            long many = under <= 0 ? 0 : (bound - underBefore) / under;
            otherOver = overBefore + many * over;
            otherUnder = underBefore + many * under;
        }

        /** FLOOR of k * y, k from 0 to the bound. */
        long floorTimes(long k) {
            boolean isOwn = isMet || isLow;
            long lowOver = isOwn ? over : otherOver;
            long lowUnder = isOwn ? under : otherUnder;
            return lowUnder <= 0 ? 0 : k * lowOver / lowUnder;
        }

        /** The least whole number not below k * y, k from 0 to the bound. */
        long ceilTimes(long k) {
            boolean isOwn = isMet || !isLow;
            long highOver = isOwn ? over : otherOver;
            long highUnder = isOwn ? under : otherUnder;
            return highUnder <= 0 ? 0 : (k * highOver + highUnder - 1) / highUnder;
        }

        /** The sign of y less u / v, v from 1 to the bound. */
        int orderInside(long u, long v) {
            if (u < 0 || u >= v) {
                return u < 0 ? 1 : -1;
            }
            boolean isOwn = isMet || isLow;
            long left = u * (isOwn ? under : otherUnder);
            long right = v * (isOwn ? over : otherOver);
            if (left == right) {
                return isMet ? 0 : 1;
            }
            return left < right ? 1 : -1;
        }

        /** The sign of x less u / v, v from 1 to the bound. */
        int orderOf(long u, long v) {
            return orderInside(u - whole * v, v);
        }

        /** -1 if a / b is less far from x than c / d, 0 if as far, 1 if farther; the bound is 2 * b * d or more. */
        int farther(long a, long b, long c, long d) {
            long difference = a * d - c * b;
            if (difference == 0) {
                return 0;
            }
            int side = orderOf(a * d + c * b, 2 * b * d);
            return difference < 0 ? side : -side;
        }

        /** Finds BEST of y. */
        void seekBest(Row row, long bound, int kind) {
            narrow(row, bound);
            bestOver = over;
            bestUnder = under;
            if (kind == 1 || isMet) {
                return;
            }
            // The fraction on the other side is nearer if y is on its side of the middle of both.
            long farOver = otherOver;
            long farUnder = otherUnder;
            int farSide = isLow ? 1 : -1;
            long middleUnder = 2 * under * otherUnder;
            long middleOver = over * otherUnder + otherOver * under;
            narrow(row, middleUnder);
            if (orderInside(middleOver, middleUnder) == farSide) {
                bestOver = farOver;
                bestUnder = farUnder;
            }
        }

        boolean isBestAt(long a, long b) {
            return bestUnder == b && whole * b + bestOver == a;
        }

        /** Finds GEARS of x: of a and b from least to most. */
        void seekGears(Row row, int least, int most) {
            narrow(row, 2L * most * most);
            bestUnder = 0;
            for (int b = least; b <= most; b++) {
                long below = whole * b + floorTimes(b);
                for (int up = 0; up <= 1; up++) {
                    long a = Math.max(least, Math.min(most, below + up));
                    if (bestUnder == 0 || farther(a, b, bestOver, bestUnder) < 0) {
                        bestOver = a;
                        bestUnder = b;
                    }
                }
            }
        }
    }

    /** The climb from TERM to TERM: the last two CONVERGENTS. */
    private static final class Climb {
        private final Big p = new Big(32);
        private final Big pBefore = new Big(32);
        private final Big q = new Big(32);
        private final Big qBefore = new Big(32);
        private final Big term = new Big(32);
        private final Big work = new Big(32);
        private final Big other = new Big(32);

        void start() {
            p.setLong(1);
            pBefore.setLong(0);
            q.setLong(0);
            qBefore.setLong(1);
        }

        void startAt(Row row, int k) {
            start();
            for (int next = 0; next <= k; next++) {
                row.read(next, term);
                add(term);
            }
        }

        void add(Big told) {
            work.productOf(told, p);
            work.sumOf(work, pBefore);
            pBefore.setTo(p);
            p.setTo(work);
            work.productOf(told, q);
            work.sumOf(work, qBefore);
            qBefore.setTo(q);
            q.setTo(work);
        }

        /** P(k) * Q(k - 1) - P(k - 1) * Q(k). */
        int crossing() {
            work.productOf(p, qBefore);
            other.productOf(pBefore, q);
            work.differenceOf(work, other);
            return (int) work.toLong();
        }

        void writeTo(StringBuilder text, char between) {
            p.writeTo(text);
            text.append(between);
            q.writeTo(text);
        }
    }

    /** The TERMS of the root of d, and with each CONVERGENT P / Q what P * P - d * Q * Q is. */
    private static final class RootWalk {
        /** Far above two PERIODS for each of the ANSWERS that are asked for. */
        private static final int MOST_STEPS = 2000;

        private int d;
        private int floor;
        private int ahead;
        private int under;
        private int term;
        private int norm;

        void start(int newD) {
            d = newD;
            floor = (int) floorRoot(newD);
            ahead = 0;
            under = 1;
            term = floor;
            norm = 1;
        }

        /** Goes past CONVERGENT k, which TERM k ends: norm is that of it then, and term the TERM after it. */
        void goOn(int k) {
            int divisor = under;
            ahead = under * term - ahead;
            under = divisor <= 0 ? 1 : (d - ahead * ahead) / divisor;
            term = under <= 0 ? 1 : (floor + ahead) / under;
            norm = k % 2 == 0 ? -under : under;
        }

        int termAt(int newD, int place) {
            start(newD);
            for (int k = 0; k < place && k < MOST_STEPS; k++) {
                goOn(k);
            }
            return term;
        }

        int findPeriod(int newD) {
            start(newD);
            for (int k = 0; k < MOST_STEPS; k++) {
                goOn(k);
                if (under == 1) {
                    return k + 1;
                }
            }
            return NONE;
        }

        /** Which CONVERGENT of the root is ANSWER number; NONE if there are no ANSWERS. */
        int placeOf(int newD, int n, int number) {
            int found = 0;
            int periods = 0;
            start(newD);
            for (int k = 0; k < MOST_STEPS; k++) {
                goOn(k);
                if (norm == n) {
                    found++;
                }
                if (found > number) {
                    return k;
                }
                if (under == 1) {
                    periods++;
                }
                // After two PERIODS all comes again, with its sign.
                if (periods == 2 && found == 0) {
                    return NONE;
                }
            }
            return NONE;
        }

        /** The REST of P, or of Q, of CONVERGENT place. */
        int restAt(int newD, int place, boolean isUnder, int by) {
            if (by <= 0) {
                return 0;
            }
            long value = isUnder ? 0 : 1;
            long before = isUnder ? 1 : 0;
            start(newD);
            for (int k = 0; k <= place && k < MOST_STEPS; k++) {
                long next = (term * value + before) % by;
                before = value;
                value = next;
                goOn(k);
            }
            return (int) (value % by);
        }
    }

    /** A CALENDAR. It never changes once it is made. */
    private static final class Almanac {
        private final Row row;
        private final int common;
        private final int leaps;
        private final int cycle;

        Almanac(Row row, int common, int leaps, int cycle) {
            this.row = row;
            this.common = common;
            this.leaps = leaps;
            this.cycle = cycle;
        }

        int leapsAhead(int year) {
            return cycle <= 0 ? 0 : (int) ((long) year * leaps / cycle);
        }

        int beginOf(int year) {
            return year * common + leapsAhead(year);
        }

        int yearAt(int day) {
            int low = 0;
            int high = LAST_YEAR;
            for (int guess = 0; guess < 32 && low < high; guess++) {
                int middle = (low + high + 1) / 2;
                if (beginOf(middle) <= day) {
                    low = middle;
                } else {
                    high = middle - 1;
                }
            }
            return day < beginOf(low + 1) ? low : NONE;
        }
    }

    /** ROWS, DRAFT and CALENDAR at one time. */
    private static final class State {
        private final Row[] rows = new Row[MOST_ROWS];
        private int rowCount;
        private final int[] told = new int[MOST_DRAFT];
        private int toldCount;
        private Almanac almanac;

        void setTo(State other) {
            System.arraycopy(other.told, 0, told, 0, MOST_DRAFT);
            toldCount = other.toldCount;
            rowCount = other.rowCount;
            almanac = other.almanac;
            for (int row = 0; row < MOST_ROWS; row++) {
                rows[row] = other.rows[row];
            }
        }

        Row rowAt(int row) {
            return row >= 0 && row < rowCount && row < MOST_ROWS ? rows[row] : null;
        }

        int toldAt(int k) {
            return k >= 0 && k < MOST_DRAFT ? told[k] : 0;
        }

        int addRow(Row row) {
            if (rowCount >= MOST_ROWS) {
                return NONE;
            }
            rows[rowCount] = row;
            rowCount++;
            return rowCount - 1;
        }

        void dropRow(int row) {
            for (int next = Math.max(0, row); next < MOST_ROWS - 1; next++) {
                rows[next] = rows[next + 1];
            }
            rows[MOST_ROWS - 1] = null;
            rowCount--;
        }

        void tell(int term) {
            if (toldCount < MOST_DRAFT) {
                told[toldCount] = term;
                toldCount++;
            }
        }

        int takeTold() {
            if (toldCount <= 0) {
                return REFUSED;
            }
            toldCount--;
            return toldAt(toldCount);
        }
    }

    private final State now = new State();
    private final State[] past = new State[MOST_PAST];
    private int pastCount;
    private int knocks;
    private final Descent descent = new Descent();
    private final Bracket bracket = new Bracket();
    private final Climb climb = new Climb();
    private final RootWalk walk = new RootWalk();
    private final Big left = new Big(64);
    private final Big right = new Big(64);
    private final StringBuilder text = new StringBuilder();

    public Stepsdown() {
        for (int place = 0; place < MOST_PAST; place++) {
            past[place] = new State();
        }
    }

    // Making rows

    public int fraction(int p, int q) throws IllegalArgumentException, IllegalStateException {
        demand(isWithin(p, -99999, 99999) && isWithin(q, -9999, 9999));
        demandRoom();
        if (q == 0) {
            return REFUSED;
        }
        descent.startFraction(p, q);
        return keep(descent.makeRow());
    }

    public int root(int p, int d, int q) throws IllegalArgumentException, IllegalStateException {
        demand(isWithin(p, -99, 99) && isWithin(d, -9, 199) && isWithin(q, -6, 6) && !isSquare(d));
        demandRoom();
        if (d < 0 || q == 0) {
            return REFUSED;
        }
        descent.startRoot(p, d, q);
        return keep(descent.makeRow());
    }

    public int push(int term) throws IllegalArgumentException, IllegalStateException {
        demand(isWithin(term, now.toldCount == 0 ? -99 : 1, 99));
        demandState(now.toldCount < MOST_DRAFT);
        remember();
        now.tell(term);
        return now.toldCount;
    }

    public int pop() {
        if (now.toldCount == 0) {
            return REFUSED;
        }
        remember();
        return now.takeTold();
    }

    public int finish() throws IllegalStateException {
        demandState(now.toldCount > 0);
        demandRoom();
        climb.start();
        for (int k = 0; k < now.toldCount; k++) {
            left.setLong(now.toldAt(k));
            climb.add(left);
        }
        descent.startPair(climb.p, climb.q);
        int number = keep(descent.makeRow());
        now.toldCount = 0;
        return number;
    }

    public int map(int row, int a, int b, int c, int d)
            throws IndexOutOfBoundsException, IllegalArgumentException, IllegalStateException {
        Row from = rowAt(row);
        demand(isMap(a, b, c, d));
        demandRoom();
        if (!descent.startMapped(from, a, b, c, d)) {
            return REFUSED;
        }
        return keep(descent.makeRow());
    }

    public int remove(int row) throws IndexOutOfBoundsException {
        rowAt(row);
        remember();
        now.dropRow(row);
        return now.rowCount;
    }

    public int undo() throws IllegalStateException {
        demandState(pastCount > 0);
        pastCount--;
        now.setTo(past[pastCount]);
        return pastCount;
    }

    public int knock() {
        knocks++;
        return knocks;
    }

    private int keep(Row made) {
        demandState(made != null);
        remember();
        return now.addRow(made);
    }

    /** Keeps what is, ahead of a STEP BACK; the oldest is forgotten if there are too many. */
    private void remember() {
        if (pastCount >= MOST_PAST) {
            State oldest = past[0];
            for (int place = 0; place < MOST_PAST - 1; place++) {
                past[place] = past[place + 1];
            }
            past[MOST_PAST - 1] = oldest;
            pastCount = MOST_PAST - 1;
        }
        past[pastCount].setTo(now);
        pastCount++;
    }

    // Terms

    public int ofRow(int row, int what) throws IndexOutOfBoundsException, IllegalArgumentException {
        Row from = rowAt(row);
        demand(isWithin(what, 0, 5));
        return tellOfRow(from, what);
    }

    private static int tellOfRow(Row row, int what) {
        switch (what) {
            case 0:
                return row.isRoot ? 1 : 0;
            case 1:
                return row.held();
            case 2:
                return row.begin;
            case 3:
                return row.period;
            case 4:
                return row.sign();
            default:
                return !row.isRoot ? NONE : row.isMirrored() ? 1 : 0;
        }
    }

    public int term(int row, int k, int by) throws IndexOutOfBoundsException, IllegalArgumentException {
        Row from = rowAt(row);
        demandPlace(isWithin(k, 0, LAST_TERM) && from.has(k));
        demand(isWithin(by, 1, MOST_BY));
        return from.rest(k, by);
    }

    public String terms(int row) throws IndexOutOfBoundsException {
        writeTerms(rowAt(row));
        return text.toString();
    }

    private void writeTerms(Row row) {
        text.setLength(0);
        for (int k = 0; k < row.held(); k++) {
            if (k > 0) {
                text.append(' ');
            }
            if (k == row.begin) {
                text.append('(');
            }
            row.read(k, left);
            left.writeTo(text);
        }
        if (row.isRoot) {
            text.append(')');
        }
    }

    public int draft(int k) throws IndexOutOfBoundsException {
        demandPlace(isWithin(k, 0, now.toldCount - 1));
        return now.toldAt(k);
    }

    public boolean sameTail(int row, int other) throws IndexOutOfBoundsException {
        return isTailShared(rowAt(row), rowAt(other));
    }

    private static boolean isTailShared(Row row, Row other) {
        if (!row.isRoot || !other.isRoot) {
            return row.isRoot == other.isRoot;
        }
        if (row.period != other.period) {
            return false;
        }
        for (int turn = 0; turn < row.period; turn++) {
            if (isTurned(row, other, turn)) {
                return true;
            }
        }
        return false;
    }

    /** Whether the PERIOD of the other, begun so much later, is that of the ROW. */
    private static boolean isTurned(Row row, Row other, int turn) {
        for (int step = 0; step < row.period; step++) {
            if (row.termOrder(row.begin + step, other, other.begin + turn + step) != 0) {
                return false;
            }
        }
        return true;
    }

    public int machine(int row, int a, int b, int c, int d, int k)
            throws IndexOutOfBoundsException, IllegalArgumentException {
        Row from = rowAt(row);
        demand(isMap(a, b, c, d) && isWithin(k, 0, 20));
        if (!descent.startMapped(from, a, b, c, d)) {
            return REFUSED;
        }
        for (int next = 0; next < k && !descent.isOver(); next++) {
            descent.goDown();
        }
        if (descent.isOver()) {
            return NONE;
        }
        descent.goDown();
        return descent.term.rest(MOST_BY);
    }

    // Convergents and best fractions

    public int convergent(int row, int k, boolean isUnder, int by)
            throws IndexOutOfBoundsException, IllegalArgumentException {
        Row from = convergentRow(row, k);
        demand(isWithin(by, 1, MOST_BY));
        return convergentRest(from, k, isUnder, by);
    }

    private static int convergentRest(Row row, int k, boolean isUnder, int by) {
        long value = isUnder ? 0 : 1;
        long before = isUnder ? 1 : 0;
        for (int next = 0; next <= k; next++) {
            long above = row.rest(next, by) * value + before;
            before = value;
            value = by <= 0 ? 0 : above % by;
        }
        return (int) value;
    }

    public String convergentText(int row, int k) throws IndexOutOfBoundsException {
        climb.startAt(convergentRow(row, k), k);
        text.setLength(0);
        climb.writeTo(text, '/');
        return text.toString();
    }

    public int cross(int row, int k) throws IndexOutOfBoundsException {
        climb.startAt(convergentRow(row, k), k);
        return climb.crossing();
    }

    public int side(int row, int k) throws IndexOutOfBoundsException {
        Row from = convergentRow(row, k);
        climb.startAt(from, k);
        return descent.sideOf(from, climb.p, climb.q);
    }

    public int best(int row, int most, int kind, boolean isUnder, int by)
            throws IndexOutOfBoundsException, IllegalArgumentException {
        Row from = rowAt(row);
        demand(isBound(most) && isKind(kind) && isWithin(by, 1, MOST_BY));
        bracket.seekBest(from, most, kind);
        return bestRest(from, isUnder, by);
    }

    /** The REST of BEST that the bracket has found. */
    private int bestRest(Row row, boolean isUnder, int by) {
        if (by <= 0) {
            return 0;
        }
        long under = bracket.bestUnder;
        return (int) ((isUnder ? under : row.rest(0, by) * under + bracket.bestOver) % by);
    }

    public String bestText(int row, int most, int kind) throws IndexOutOfBoundsException, IllegalArgumentException {
        Row from = rowAt(row);
        demand(isBound(most) && isKind(kind));
        bracket.seekBest(from, most, kind);
        from.read(0, left);
        left.timesOf(left, (int) bracket.bestUnder);
        right.setLong(bracket.bestOver);
        left.sumOf(left, right);
        right.setLong(bracket.bestUnder);
        text.setLength(0);
        left.writeTo(text);
        text.append('/');
        right.writeTo(text);
        return text.toString();
    }

    public boolean isBest(int row, int a, int b, int kind) throws IndexOutOfBoundsException, IllegalArgumentException {
        Row from = rowAt(row);
        demand(isNumerator(a) && isBound(b) && isKind(kind));
        bracket.seekBest(from, b, kind);
        return bracket.isBestAt(a, b);
    }

    public int bests(int row, int most, int kind) throws IndexOutOfBoundsException, IllegalArgumentException {
        Row from = rowAt(row);
        demand(isWithin(most, 1, 60) && isKind(kind));
        int many = 0;
        for (int bound = 1; bound <= most; bound++) {
            bracket.seekBest(from, bound, kind);
            // A BEST that was not there up to one less has the bound for its denominator.
            if (bracket.bestUnder == bound) {
                many++;
            }
        }
        return many;
    }

    public int nearer(int row, int a, int b, int c, int d) throws IndexOutOfBoundsException, IllegalArgumentException {
        Row from = rowAt(row);
        demand(isNumerator(a) && isNumerator(c) && isWithin(b, 0, 9999) && isWithin(d, 0, 9999));
        if (b == 0 || d == 0) {
            return REFUSED;
        }
        bracket.narrow(from, 2L * b * d);
        return bracket.farther(a, b, c, d);
    }

    public int against(int row, int a, int b) throws IndexOutOfBoundsException, IllegalArgumentException {
        Row from = rowAt(row);
        demand(isNumerator(a) && isWithin(b, 0, 9999));
        if (b == 0) {
            return REFUSED;
        }
        bracket.narrow(from, b);
        return bracket.orderOf(a, b);
    }

    public int compare(int row, int other) throws IndexOutOfBoundsException {
        return orderOf(rowAt(row), rowAt(other));
    }

    /** Orders by the first TERMS that differ: a greater one makes the number greater, at each second place less. */
    private static int orderOf(Row row, Row other) {
        int most = row.held() + other.held();
        for (int k = 0; k <= most; k++) {
            int order = row.termOrder(k, other, k);
            if (order != 0) {
                return k % 2 == 0 ? order : -order;
            }
        }
        return 0;
    }

    public int gears(int row, int least, int most, boolean isUnder)
            throws IndexOutOfBoundsException, IllegalArgumentException {
        Row from = rowAt(row);
        demand(isWithin(least, 1, 40) && isWithin(most, least, 40));
        bracket.seekGears(from, least, most);
        return (int) (isUnder ? bracket.bestUnder : bracket.bestOver);
    }

    // Fence and calendar

    public int post(int row, int k, int by) throws IndexOutOfBoundsException, IllegalArgumentException {
        Row from = rowAt(row);
        demand(isWithin(k, 0, 9999) && isWithin(by, 1, MOST_BY));
        return postRest(from, k, by);
    }

    private int postRest(Row row, int k, int by) {
        bracket.narrow(row, Math.max(1, k));
        return by <= 0 ? 0 : (int) (((long) row.rest(0, by) * k + bracket.floorTimes(k)) % by);
    }

    public int step(int row, int k) throws IndexOutOfBoundsException, IllegalArgumentException {
        Row from = rowAt(row);
        demand(isWithin(k, 0, 9998));
        return countLong(from, k, k);
    }

    public int longSteps(int row, int from, int to) throws IndexOutOfBoundsException, IllegalArgumentException {
        Row asked = rowAt(row);
        demand(isWithin(from, 0, 9998) && isWithin(to, from, 9998));
        return countLong(asked, from, to);
    }

    private int countLong(Row row, int first, int last) {
        bracket.narrow(row, last + 1);
        return (int) (bracket.floorTimes(last + 1) - bracket.floorTimes(first));
    }

    public String fence(int row, int from, int many) throws IndexOutOfBoundsException, IllegalArgumentException {
        Row asked = rowAt(row);
        demand(isWithin(from, 0, 9900) && isWithin(many, 1, 40));
        bracket.narrow(asked, from + many);
        text.setLength(0);
        for (int k = from; k < from + many; k++) {
            text.append(bracket.floorTimes(k + 1) > bracket.floorTimes(k) ? '1' : '0');
        }
        return text.toString();
    }

    public int calendar(int row, int most)
            throws IndexOutOfBoundsException, IllegalArgumentException, IllegalStateException {
        Row from = rowAt(row);
        demand(isBound(most));
        int common = (int) from.small(0, Bracket.FAR);
        demandState(isWithin(common, 0, 9999));
        bracket.seekBest(from, most, 0);
        remember();
        now.almanac = new Almanac(from, common, (int) bracket.bestOver, (int) bracket.bestUnder);
        return now.almanac.cycle;
    }

    public int ofCalendar(int what) throws IllegalArgumentException, IllegalStateException {
        demand(isWithin(what, 0, 2));
        return tellOfCalendar(almanac(), what);
    }

    private static int tellOfCalendar(Almanac almanac, int what) {
        return what == 0 ? almanac.common : what == 1 ? almanac.leaps : almanac.cycle;
    }

    public boolean isLeap(int year) throws IllegalArgumentException, IllegalStateException {
        Almanac almanac = almanacAt(year);
        return almanac.leapsAhead(year + 1) > almanac.leapsAhead(year);
    }

    public int days(int year) throws IllegalArgumentException, IllegalStateException {
        return almanacAt(year).beginOf(year);
    }

    public int yearOf(int day) throws IllegalArgumentException, IllegalStateException {
        demand(day >= 0);
        return almanac().yearAt(day);
    }

    public int drift(int year) throws IllegalArgumentException, IllegalStateException {
        return driftOf(almanacAt(year), year);
    }

    /** COMMON goes out of the difference, so that only what is above it counts. */
    private int driftOf(Almanac almanac, int year) {
        bracket.narrow(almanac.row, Math.max(1, 100 * year));
        return (int) (100L * almanac.leapsAhead(year) - bracket.ceilTimes(100L * year));
    }

    // Answers

    public int squareRoot(int n) {
        return n < 0 ? REFUSED : (int) floorRoot(n);
    }

    public int answer(int d, int n, int k, boolean isY, int by) throws IllegalArgumentException {
        demand(isEquation(d, n) && isWithin(k, 0, 8) && isWithin(by, 1, MOST_BY));
        int place = walk.placeOf(d, n, k);
        return place < 0 ? NONE : walk.restAt(d, place, isY, by);
    }

    public String answerText(int d, int n, int k) throws IllegalArgumentException {
        demand(isEquation(d, n) && isWithin(k, 0, 8));
        int place = walk.placeOf(d, n, k);
        if (place < 0) {
            return "";
        }
        climb.start();
        walk.start(d);
        for (int next = 0; next <= place; next++) {
            left.setLong(walk.term);
            climb.add(left);
            walk.goOn(next);
        }
        text.setLength(0);
        climb.writeTo(text, ',');
        return text.toString();
    }

    public int answers(int d, int n, int digits) throws IllegalArgumentException {
        demand(isEquation(d, n) && isWithin(digits, 1, 20));
        int many = 0;
        climb.start();
        walk.start(d);
        for (int k = 0; k < RootWalk.MOST_STEPS && climb.q.decimals() <= digits; k++) {
            left.setLong(walk.term);
            climb.add(left);
            walk.goOn(k);
            if (walk.norm == n && climb.q.decimals() <= digits) {
                many++;
            }
        }
        return many;
    }

    public int rootPeriod(int d) throws IllegalArgumentException {
        demand(isRadicand(d));
        return walk.findPeriod(d);
    }

    // All

    public int house(int what) throws IllegalArgumentException {
        demand(isWithin(what, 0, 4));
        return tellOfHouse(what);
    }

    private int tellOfHouse(int what) {
        switch (what) {
            case 0:
                return now.rowCount;
            case 1:
                return now.toldCount;
            case 2:
                return pastCount;
            case 3:
                return knocks;
            default:
                return now.almanac == null ? 0 : 1;
        }
    }

    public boolean isSound() {
        for (int row = 0; row < now.rowCount; row++) {
            Row one = now.rowAt(row);
            if (one == null || !areConvergentsSound(one) || orderOf(one, one) != 0) {
                return false;
            }
            if (!descent.startMapped(one, 1, 0, 0, 1) || !isOwnDescent(one)) {
                return false;
            }
            for (int kind = 0; kind <= 1; kind++) {
                bracket.seekBest(one, 50, kind);
                if (!isOnTheWay(one, kind)) {
                    return false;
                }
            }
        }
        return areAnswersSound(7) && areAnswersSound(13);
    }

    private boolean areConvergentsSound(Row row) {
        climb.start();
        for (int k = 0; k <= 12 && row.has(k); k++) {
            int turn = k % 2 == 0 ? 1 : -1;
            row.read(k, left);
            climb.add(left);
            int side = descent.sideOf(row, climb.p, climb.q);
            if (climb.crossing() != -turn || side != (row.isLast(k) ? 0 : turn)) {
                return false;
            }
            if (k > 0) {
                // The last CONVERGENT is less far from x than the one ahead if x is on its side of their middle.
                findMiddle();
                if (descent.sideOf(row, left, right) != -turn) {
                    return false;
                }
            }
        }
        return true;
    }

    /** Sets left / right to the middle of the last two CONVERGENTS. */
    private void findMiddle() {
        left.productOf(climb.p, climb.qBefore);
        right.productOf(climb.pBefore, climb.q);
        left.sumOf(left, right);
        right.productOf(climb.q, climb.qBefore);
        right.sumOf(right, right);
    }

    /** Whether the first 9 TERMS of the descent that was started are the ROW's. */
    private boolean isOwnDescent(Row row) {
        for (int k = 0; k < 9 && row.has(k); k++) {
            if (descent.isOver()) {
                return false;
            }
            descent.goDown();
            row.read(k, left);
            if (descent.term.order(left) != 0) {
                return false;
            }
        }
        return row.has(9) || descent.isOver();
    }

    /** Whether BEST that the bracket has found, up to 50, is a CONVERGENT, or with KIND 0 lies between two. */
    private boolean isOnTheWay(Row row, int kind) {
        long over = bracket.bestOver;
        long under = bracket.bestUnder;
        long top = 0;
        long bottom = 1;
        long topBefore = 1;
        long bottomBefore = 0;
        for (int k = 0; k <= 50 && bottom <= under; k++) {
            if (top == over && bottom == under) {
                return true;
            }
            long term = row.has(k + 1) ? row.small(k + 1, 51) : 0;
            for (long many = 1; many < term && kind == 0; many++) {
                if (topBefore + many * top == over && bottomBefore + many * bottom == under) {
                    return true;
                }
            }
            long nextTop = topBefore + term * top;
            long nextBottom = bottomBefore + term * bottom;
            topBefore = top;
            bottomBefore = bottom;
            top = nextTop;
            bottom = nextBottom;
        }
        return false;
    }

    private boolean areAnswersSound(int d) {
        int period = walk.findPeriod(d);
        boolean isOdd = period % 2 != 0;
        int whole = isOdd ? 2 * period : period;
        for (int k = 0; k <= 1; k++) {
            int place = walk.placeOf(d, -1, k);
            if (walk.placeOf(d, 1, k) != (k + 1) * whole - 1 || place != (isOdd ? k * whole + period - 1 : NONE)) {
                return false;
            }
        }
        long x = walk.restAt(d, whole - 1, false, MOST_BY);
        long y = walk.restAt(d, whole - 1, true, MOST_BY);
        return walk.restAt(d, 2 * whole - 1, false, MOST_BY) == (x * x + d * y * y) % MOST_BY
                && walk.restAt(d, 2 * whole - 1, true, MOST_BY) == 2 * x * y % MOST_BY
                && isRootMirrored(d, period);
    }

    private boolean isRootMirrored(int d, int period) {
        for (int k = 1; k < period; k++) {
            if (walk.termAt(d, k) != walk.termAt(d, period - k)) {
                return false;
            }
        }
        return walk.termAt(d, period) == 2 * walk.termAt(d, 0);
    }

    public long digest() {
        long sum = 4909;
        for (int what = 0; what <= 4; what++) {
            sum = sum * 31 + tellOfHouse(what);
        }
        for (int k = 0; k < now.toldCount; k++) {
            sum = sum * 31 + now.toldAt(k);
        }
        for (int row = 0; row < now.rowCount; row++) {
            sum = sumRow(sum, now.rowAt(row), now.rowAt(0));
        }
        if (now.almanac != null) {
            for (int what = 0; what <= 2; what++) {
                sum = sum * 31 + tellOfCalendar(now.almanac, what);
            }
            sum = sum * 31 + now.almanac.beginOf(400);
            sum = sum * 31 + driftOf(now.almanac, 400);
        }
        return sum * 31 + (isSound() ? 1 : 0);
    }

    private long sumRow(long before, Row row, Row first) {
        long sum = before;
        if (row == null || first == null) {
            return sum;
        }
        for (int what = 0; what <= 5; what++) {
            sum = sum * 31 + tellOfRow(row, what);
        }
        writeTerms(row);
        sum = sum * 31 + text.length();
        for (int k = 0; k <= 7 && row.has(k); k++) {
            sum = sum * 31 + row.rest(k, MOST_BY);
            sum = sum * 31 + convergentRest(row, k, false, MOST_BY);
            sum = sum * 31 + convergentRest(row, k, true, MOST_BY);
        }
        for (int kind = 0; kind <= 1; kind++) {
            bracket.seekBest(row, 100, kind);
            sum = sum * 31 + bestRest(row, false, MOST_BY);
            sum = sum * 31 + bestRest(row, true, MOST_BY);
        }
        sum = sum * 31 + postRest(row, 100, MOST_BY);
        sum = sum * 31 + countLong(row, 0, 20);
        bracket.narrow(row, 2);
        sum = sum * 31 + bracket.orderOf(1, 2);
        sum = sum * 31 + orderOf(row, first);
        return sum * 31 + (isTailShared(row, first) ? 1 : 0);
    }

    // What a call may ask

    private Row rowAt(int row) {
        Row found = now.rowAt(row);
        if (found == null) {
            throw new IndexOutOfBoundsException("there is no such row");
        }
        return found;
    }

    private Row convergentRow(int row, int k) {
        Row found = rowAt(row);
        demandPlace(isWithin(k, 0, LAST_CONVERGENT) && found.has(k));
        return found;
    }

    private Almanac almanac() {
        Almanac found = now.almanac;
        if (found == null) {
            throw new IllegalStateException("there is no calendar");
        }
        return found;
    }

    private Almanac almanacAt(int year) {
        demand(isWithin(year, 0, LAST_YEAR));
        return almanac();
    }

    private void demandRoom() {
        demandState(now.rowCount < MOST_ROWS);
    }

    private static void demand(boolean isRight) {
        if (!isRight) {
            throw new IllegalArgumentException("what is told is out of its range");
        }
    }

    private static void demandPlace(boolean isThere) {
        if (!isThere) {
            throw new IndexOutOfBoundsException("there is no such place");
        }
    }

    private static void demandState(boolean isFit) {
        if (!isFit) {
            throw new IllegalStateException("the house cannot do that now");
        }
    }

    private static boolean isWithin(int value, int least, int most) {
        return value >= least && value <= most;
    }

    private static boolean isBound(int most) {
        return isWithin(most, 1, 9999);
    }

    private static boolean isKind(int kind) {
        return isWithin(kind, 0, 1);
    }

    private static boolean isNumerator(int a) {
        return isWithin(a, -999999, 999999);
    }

    private static boolean isMap(int a, int b, int c, int d) {
        return isWithin(a, -9, 9) && isWithin(b, -9, 9) && isWithin(c, -9, 9) && isWithin(d, -9, 9)
                && a * d != b * c;
    }

    private static boolean isSquare(int n) {
        long root = floorRoot(n);
        return n >= 0 && root * root == n;
    }

    private static boolean isRadicand(int d) {
        return isWithin(d, 2, 199) && !isSquare(d);
    }

    private static boolean isEquation(int d, int n) {
        return isRadicand(d) && isWithin(n, -14, 14) && n != 0 && n * n < d;
    }
}
