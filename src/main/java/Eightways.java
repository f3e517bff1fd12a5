import java.util.NoSuchElementException;

/**
 * Decimal numbers rounded in eight ways: eight slots with numbers, one text, and acts that let a
 * slot become what comes of others.
 *
 * <p>All numbers that slots hold have at most 18 digits, so that every act is done with longs. The
 * work objects are made once, with the object, and used again by each call.
 */
public final class Eightways {
    private static final int SLOTS = 8;
    private static final int MOST_DIGITS = 18;
    private static final int MOST_SCALE = 9;
    private static final long MOST_LONG = 9223372036854775807L;
    private static final int MOST_SHIFT = 9;
    private static final int MOST_FACTORS = 9;
    private static final int MOST_KEPT = 8;

    private static final int FIRST_SIGN = 32;
    private static final int LAST_SIGN = 126;
    private static final int MOST_TYPED = 24;
    /** A '-', 18 digits, and 9 zeros behind them: the longest number that is told. */
    private static final int MOST_TOLD = 28;
    private static final int MOST_BEHIND_MARK = 4;
    private static final char NO_SIGN = (char) 0;
    /** No exponent that is read has five digits. */
    private static final int NO_EXPONENT = 10000;

    /** What becomes of an act. */
    private static final int FINE = 0;
    private static final int REFUSED = 1;
    private static final int UNDEFINED = 2;
    private static final int NO_NUMBER = 3;

    private static final char[] WAYS = {'u', 'd', 'c', 'f', 'h', 'l', 'e', 'n'};
    /** The ways that round in two steps as they do at once. */
    private static final char[] STEADY_WAYS = {'u', 'd', 'c', 'f'};
    private static final int LEAST_CHECKED_SCALE = -1;
    private static final int MOST_CHECKED_SCALE = 2;

    private static final long[] POWERS_OF_TEN = {
        1L,
        10L,
        100L,
        1000L,
        10000L,
        100000L,
        1000000L,
        10000000L,
        100000000L,
        1000000000L,
        10000000000L,
        100000000000L,
        1000000000000L,
        10000000000000L,
        100000000000000L,
        1000000000000000L,
        10000000000000000L,
        100000000000000000L,
        1000000000000000000L
    };

    private final Slots slots = new Slots();
    private final Kept kept = new Kept();
    private final Signs text = new Signs();
    private final Signs row = new Signs();
    private final Decimal first = new Decimal();
    private final Decimal second = new Decimal();
    private final Decimal made = new Decimal();
    private final Decimal held = new Decimal();
    private final Theorem theorem = new Theorem();

    public Eightways() {
    }

    // ---- the text

    public int type(char sign) throws IllegalArgumentException, IllegalStateException {
        if (sign < FIRST_SIGN || sign > LAST_SIGN) {
            throw new IllegalArgumentException("a sign that can't be typed");
        }
        if (text.length >= MOST_TYPED) {
            throw new IllegalStateException("the text is full");
        }
        text.add(sign);
        return text.length;
    }

    public int erase() {
        int had = text.length;
        text.clear();
        return had;
    }

    public char signAt(int place) throws IndexOutOfBoundsException {
        if (place < 0 || place >= text.length) {
            throw new IndexOutOfBoundsException("no such place");
        }
        return text.at(place);
    }

    public int tell(int slot) throws IndexOutOfBoundsException {
        takeOne(slot);
        text.becomePlain(first);
        return text.length;
    }

    public int read(int slot) throws IndexOutOfBoundsException, UnsupportedOperationException, NumberFormatException {
        needSlot(slot);
        int outcome = made.becomeRead(text);
        if (outcome == NO_NUMBER) {
            throw new NumberFormatException("the text is no number");
        }
        int count = settle(outcome, slot);
        text.clear();
        return count;
    }

    // ---- numbers

    public int put(int slot, long digits, int scale) throws IndexOutOfBoundsException, IllegalArgumentException {
        needSlot(slot);
        made.become(digits, scale);
        if (!made.isNear()) {
            throw new IllegalArgumentException("the number would not be near");
        }
        return fill(slot);
    }

    public int copy(int slot, int to) throws IndexOutOfBoundsException {
        takeOne(slot);
        needSlot(to);
        made.becomeLike(first);
        return fill(to);
    }

    public int scale(int slot) throws IndexOutOfBoundsException {
        takeOne(slot);
        return first.scale;
    }

    public int precision(int slot) throws IndexOutOfBoundsException {
        takeOne(slot);
        return first.countDigits();
    }

    public int sign(int slot) throws IndexOutOfBoundsException {
        takeOne(slot);
        return Long.signum(first.digits);
    }

    public int compare(int slot, int other) throws IndexOutOfBoundsException {
        takeBoth(slot, other);
        return first.comparedWith(second);
    }

    public boolean isEqual(int slot, int other) throws IndexOutOfBoundsException {
        takeBoth(slot, other);
        return first.isLike(second);
    }

    public long whole(int slot) throws IndexOutOfBoundsException, ArithmeticException {
        takeOne(slot);
        if (!first.isWhole()) {
            throw new ArithmeticException("no whole number");
        }
        if (!first.isLong()) {
            throw new ArithmeticException("no long");
        }
        return first.wholeValue();
    }

    public int digits(int slot) throws IndexOutOfBoundsException {
        takeOne(slot);
        first.become(first.digits, 0);
        text.becomePlain(first);
        return text.length;
    }

    // ---- acts: a slot becomes what comes of others

    public int sum(int a, int b, int to) throws IndexOutOfBoundsException, UnsupportedOperationException {
        takeBoth(a, b);
        needSlot(to);
        return settle(made.becomeSum(first, second), to);
    }

    public int difference(int a, int b, int to) throws IndexOutOfBoundsException, UnsupportedOperationException {
        takeBoth(a, b);
        needSlot(to);
        second.become(-second.digits, second.scale);
        return settle(made.becomeSum(first, second), to);
    }

    public int product(int a, int b, int to) throws IndexOutOfBoundsException, UnsupportedOperationException {
        takeBoth(a, b);
        needSlot(to);
        return settle(made.becomeProduct(first, second), to);
    }

    public int power(int a, int n, int to) throws IndexOutOfBoundsException, IllegalArgumentException, UnsupportedOperationException {
        takeOne(a);
        needSlot(to);
        needRange(n, 0, MOST_FACTORS);
        return settle(made.becomePower(first, n), to);
    }

    public int turn(int a, int to) throws IndexOutOfBoundsException {
        takeOne(a);
        needSlot(to);
        made.become(-first.digits, first.scale);
        return fill(to);
    }

    public int size(int a, int to) throws IndexOutOfBoundsException {
        takeOne(a);
        needSlot(to);
        made.become(Math.abs(first.digits), first.scale);
        return fill(to);
    }

    public int least(int a, int b, int to) throws IndexOutOfBoundsException {
        takeBoth(a, b);
        needSlot(to);
        made.becomeLike(first.comparedWith(second) <= 0 ? first : second);
        return fill(to);
    }

    public int greatest(int a, int b, int to) throws IndexOutOfBoundsException {
        takeBoth(a, b);
        needSlot(to);
        made.becomeLike(first.comparedWith(second) >= 0 ? first : second);
        return fill(to);
    }

    public int rescale(int a, int scale, char way, int to) throws IndexOutOfBoundsException, IllegalArgumentException, UnsupportedOperationException, ArithmeticException {
        takeOne(a);
        needSlot(to);
        needRange(scale, -MOST_SCALE, MOST_SCALE);
        needWay(way);
        return settle(made.becomeRescaled(first, scale, way), to);
    }

    public int quotient(int a, int b, int scale, char way, int to) throws IndexOutOfBoundsException, IllegalArgumentException, UnsupportedOperationException, ArithmeticException {
        takeBoth(a, b);
        needSlot(to);
        needRange(scale, -MOST_SCALE, MOST_SCALE);
        needWay(way);
        return settle(made.becomeQuotient(first, second, scale, way), to);
    }

    public int exactQuotient(int a, int b, int to) throws IndexOutOfBoundsException, UnsupportedOperationException, ArithmeticException {
        takeBoth(a, b);
        needSlot(to);
        return settle(made.becomeExactQuotient(first, second), to);
    }

    public int wholeQuotient(int a, int b, int to) throws IndexOutOfBoundsException, UnsupportedOperationException, ArithmeticException {
        takeBoth(a, b);
        needSlot(to);
        return settle(made.becomeWholeQuotient(first, second), to);
    }

    public int remainder(int a, int b, int to) throws IndexOutOfBoundsException, UnsupportedOperationException, ArithmeticException {
        takeBoth(a, b);
        needSlot(to);
        return settle(made.becomeRemainder(first, second), to);
    }

    public int round(int a, int digits, char way, int to) throws IndexOutOfBoundsException, IllegalArgumentException, UnsupportedOperationException, ArithmeticException {
        takeOne(a);
        needSlot(to);
        needRange(digits, 0, MOST_DIGITS);
        needWay(way);
        return settle(made.becomeRounded(first, digits, way), to);
    }

    public int unit(int a, int to) throws IndexOutOfBoundsException {
        takeOne(a);
        needSlot(to);
        made.become(1L, first.scale);
        return fill(to);
    }

    public int bare(int a, int to) throws IndexOutOfBoundsException, UnsupportedOperationException {
        takeOne(a);
        needSlot(to);
        made.becomeBare(first);
        return settle(FINE, to);
    }

    public int move(int a, int n, int to) throws IndexOutOfBoundsException, IllegalArgumentException, UnsupportedOperationException {
        takeOne(a);
        needSlot(to);
        needRange(n, -MOST_SHIFT, MOST_SHIFT);
        if (n == 0) {
            throw new IllegalArgumentException("no move at all");
        }
        return settle(made.becomeMoved(first, n), to);
    }

    public int times(int a, int exponent, int to) throws IndexOutOfBoundsException, IllegalArgumentException, UnsupportedOperationException {
        takeOne(a);
        needSlot(to);
        needRange(exponent, -MOST_SHIFT, MOST_SHIFT);
        made.become(first.digits, first.scale - exponent);
        return settle(FINE, to);
    }

    // ---- all

    public int undo() throws NoSuchElementException {
        if (kept.count <= 0) {
            throw new NoSuchElementException("no call is kept");
        }
        int slot = kept.takeLatest(made);
        slots.store(slot, made);
        return slot;
    }

    public float zeroShare() {
        int zeros = 0;
        for (int slot = 0; slot < SLOTS; slot++) {
            slots.load(slot, first);
            if (first.digits == 0) {
                zeros++;
            }
        }
        return (float) zeros / (float) SLOTS;
    }

    public double meanScale() {
        int scales = 0;
        for (int slot = 0; slot < SLOTS; slot++) {
            slots.load(slot, first);
            scales += first.scale;
        }
        return (double) scales / (double) SLOTS;
    }

    public long checksum() {
        long sum = 7;
        for (int slot = 0; slot < SLOTS; slot++) {
            slots.load(slot, first);
            row.becomePlain(first);
            sum = row.addedTo(31 * sum + first.scale);
        }
        return text.addedTo(31 * sum + kept.count);
    }

    public boolean isSound() {
        for (int slot = 0; slot < SLOTS; slot++) {
            slots.load(slot, theorem.one);
            if (!theorem.holdsForOne()) {
                return false;
            }
            for (int other = 0; other < SLOTS; other++) {
                slots.load(other, theorem.other);
                if (!theorem.holdsForBoth()) {
                    return false;
                }
            }
        }
        return true;
    }

    // ---- what the calls share

    private static boolean isSlot(int slot) {
        return slot >= 0 && slot < SLOTS;
    }

    private static void needSlot(int slot) {
        if (!isSlot(slot)) {
            throw new IndexOutOfBoundsException("no such slot");
        }
    }

    private static void needRange(int value, int lowest, int highest) {
        if (value < lowest || value > highest) {
            throw new IllegalArgumentException("out of range");
        }
    }

    private static void needWay(char way) {
        for (char known : WAYS) {
            if (known == way) {
                return;
            }
        }
        throw new IllegalArgumentException("no such way");
    }

    private void takeOne(int slot) {
        needSlot(slot);
        slots.load(slot, first);
    }

    private void takeBoth(int slot, int other) {
        needSlot(slot);
        needSlot(other);
        slots.load(slot, first);
        slots.load(other, second);
    }

    /** Lets the slot become what was made, or tells by an exception why it can't. */
    private int settle(int outcome, int to) {
        if (outcome == UNDEFINED) {
            throw new ArithmeticException("there is no such number");
        }
        if (outcome != FINE || !made.isNear()) {
            throw new UnsupportedOperationException("refused");
        }
        return fill(to);
    }

    private int fill(int to) {
        slots.load(to, held);
        kept.keep(to, held);
        slots.store(to, made);
        return made.countDigits();
    }

    /** Ten to a power; 1 for an exponent below 0, as nothing is raised then. It is a divisor, so never 0. */
    private static long powerOfTen(int exponent) {
        boolean known = exponent >= 0 && exponent < POWERS_OF_TEN.length;
        long power = known ? POWERS_OF_TEN[exponent] : 1L;
        return power > 0 ? power : 1L;
    }

    /** Ten thirds of a precision, rounded up: so many digits a quotient by such a number can add. */
    private static int tenThirdsOf(int precision) {
        return (10 * precision + 2) / 3;
    }

    private static boolean isDigit(char sign) {
        return sign >= '0' && sign <= '9';
    }

    private static boolean isPlusOrMinus(char sign) {
        return sign == '+' || sign == '-';
    }

    /** The numbers that the slots hold. */
    private static final class Slots {
        private final long[] digits = new long[SLOTS];
        private final int[] scales = new int[SLOTS];

        void load(int slot, Decimal into) {
            if (isSlot(slot)) {
                into.become(digits[slot], scales[slot]);
            }
        }

        void store(int slot, Decimal from) {
            if (isSlot(slot)) {
                digits[slot] = from.digits;
                scales[slot] = from.scale;
            }
        }
    }

    /** What slots held ahead of the latest calls: a ring, so that the oldest one is written over. */
    private static final class Kept {
        private final int[] slots = new int[MOST_KEPT];
        private final long[] digits = new long[MOST_KEPT];
        private final int[] scales = new int[MOST_KEPT];
        private int next;
        private int count;

        void keep(int slot, Decimal held) {
            if (next < 0 || next >= MOST_KEPT) {
                next = 0;
            }
            slots[next] = slot;
            digits[next] = held.digits;
            scales[next] = held.scale;
            next++;
            count = Math.min(count + 1, MOST_KEPT);
        }

        /** Asked only while there is one. */
        int takeLatest(Decimal into) {
            next--;
            if (next < 0 || next >= MOST_KEPT) {
                next = MOST_KEPT - 1;
            }
            into.become(digits[next], scales[next]);
            count--;
            return slots[next];
        }
    }

    /** A row of signs: the text, or a number as it is told. */
    private static final class Signs {
        private final char[] signs = new char[MOST_TOLD];
        private int length;

        void clear() {
            length = 0;
        }

        void add(char sign) {
            if (length < signs.length) {
                signs[length] = sign;
                length++;
            }
        }

        char at(int place) {
            return place >= 0 && place < length ? signs[place] : NO_SIGN;
        }

        void becomePlain(Decimal number) {
            clear();
            if (number.digits < 0) {
                add('-');
            }
            int behind = Math.max(0, number.scale);
            int places = Math.max(number.countDigits(), behind + 1);
            for (int place = places - 1; place >= 0; place--) {
                add((char) ('0' + Math.abs(number.digits / powerOfTen(place) % 10)));
                if (place == behind && place > 0) {
                    add('.');
                }
            }
            int zeros = number.digits == 0 ? 0 : -number.scale;
            for (int zero = 0; zero < zeros; zero++) {
                add('0');
            }
        }

        boolean isLike(Signs other) {
            boolean alike = length == other.length;
            for (int place = 0; alike && place < length; place++) {
                alike = at(place) == other.at(place);
            }
            return alike;
        }

        long addedTo(long start) {
            long sum = start;
            for (int place = 0; place < length; place++) {
                sum = 31 * sum + at(place);
            }
            return sum;
        }

        /** The place of the first 'E' or 'e', or the length if there is none. */
        int placeOfMark() {
            int place = 0;
            while (place < length && at(place) != 'E' && at(place) != 'e') {
                place++;
            }
            return place;
        }

        int countDigitsAhead(int end) {
            int count = 0;
            for (int place = 0; place < end; place++) {
                if (isDigit(at(place))) {
                    count++;
                }
            }
            return count;
        }

        /** The exponent behind the mark, 0 without a mark, or NO_EXPONENT if there is none to read. */
        int exponentBehind(int mark) {
            if (mark >= length) {
                return 0;
            }
            int start = isPlusOrMinus(at(mark + 1)) ? mark + 2 : mark + 1;
            if (start >= length) {
                return NO_EXPONENT;
            }
            int exponent = 0;
            for (int place = start; place < length; place++) {
                if (!isDigit(at(place))) {
                    return NO_EXPONENT;
                }
                exponent = 10 * exponent + (at(place) - '0');
            }
            return at(mark + 1) == '-' ? -exponent : exponent;
        }
    }

    /**
     * A number to work with. It becomes what comes of an act on others, and tells the outcome; it
     * need not be near then, and is what it happens to be if the outcome is not FINE.
     */
    private static final class Decimal {
        private long digits;
        private int scale;

        void become(long newDigits, int newScale) {
            digits = newDigits;
            scale = newScale;
        }

        void becomeLike(Decimal other) {
            become(other.digits, other.scale);
        }

        int countDigits() {
            int count = 1;
            // both signs are looked at, as the least long has no size that is a long
            while (count < POWERS_OF_TEN.length
                    && (digits >= POWERS_OF_TEN[count] || digits <= -POWERS_OF_TEN[count])) {
                count++;
            }
            return count;
        }

        boolean isNear() {
            return scale >= -MOST_SCALE && scale <= MOST_SCALE && countDigits() <= MOST_DIGITS;
        }

        boolean isLike(Decimal other) {
            return digits == other.digits && scale == other.scale;
        }

        boolean canRaise(int exponent) {
            return countDigits() + exponent <= MOST_DIGITS;
        }

        long raised(int exponent) {
            return digits * powerOfTen(exponent);
        }

        int comparedWith(Decimal other) {
            int side = Long.signum(digits);
            int otherSide = Long.signum(other.digits);
            if (side != otherSide || side == 0) {
                return Integer.compare(side, otherSide);
            }
            return side * comparedInSize(other);
        }

        /** Asked only if neither is 0. */
        int comparedInSize(Decimal other) {
            int height = countDigits() - scale;
            int otherHeight = other.countDigits() - other.scale;
            if (height != otherHeight) {
                return Integer.compare(height, otherHeight);
            }
            // as they are equally high, the raised one has just as many digits as the other one then
            long size = Math.abs(raised(other.scale - scale));
            return Long.compare(size, Math.abs(other.raised(scale - other.scale)));
        }

        boolean isWhole() {
            return digits % powerOfTen(scale) == 0;
        }

        boolean isLong() {
            long most = MOST_LONG / powerOfTen(-scale);
            return digits >= -most && digits <= most;
        }

        /** Asked only if it is whole, and a long. */
        long wholeValue() {
            return scale > 0 ? digits / powerOfTen(scale) : raised(-scale);
        }

        int becomeSum(Decimal a, Decimal b) {
            int greater = Math.max(a.scale, b.scale);
            if (!a.canRaise(greater - a.scale) || !b.canRaise(greater - b.scale)) {
                return REFUSED;
            }
            become(a.raised(greater - a.scale) + b.raised(greater - b.scale), greater);
            return FINE;
        }

        int becomeProduct(Decimal a, Decimal b) {
            if (a.countDigits() + b.countDigits() > MOST_DIGITS) {
                return REFUSED;
            }
            become(a.digits * b.digits, a.scale + b.scale);
            return FINE;
        }

        int becomePower(Decimal a, int n) {
            if (n * a.countDigits() > MOST_DIGITS) {
                return REFUSED;
            }
            become(1L, 0);
            for (int factor = 0; factor < n; factor++) {
                become(digits * a.digits, scale + a.scale);
            }
            return FINE;
        }

        /** Becomes the value of two rows of digits, divided and rounded, as digits of the scale. */
        int becomeRatio(long above, long below, int newScale, char way) {
            if (below == 0) {
                return UNDEFINED;
            }
            long cut = above / below;
            long rest = above % below;
            if (rest == 0) {
                become(cut, newScale);
                return FINE;
            }
            if (way == 'n') {
                return UNDEFINED;
            }
            boolean negative = (above < 0) != (below < 0);
            int half = Long.compare(2 * Math.abs(rest), Math.abs(below));
            if (takesFarther(way, negative, half, cut % 2 != 0)) {
                cut += negative ? -1 : 1;
            }
            become(cut, newScale);
            return FINE;
        }

        /**
         * Whether a way takes the neighbour farther from 0.
         *
         * @param half how what lies beyond the nearer one compares with half a unit
         * @param odd whether the one nearer to 0 is odd
         */
        private static boolean takesFarther(char way, boolean negative, int half, boolean odd) {
            switch (way) {
                case 'u':
                    return true;
                case 'c':
                    return !negative;
                case 'f':
                    return negative;
                case 'h':
                    return half >= 0;
                case 'l':
                    return half > 0;
                case 'e':
                    return half > 0 || half == 0 && odd;
                default:
                    return false;
            }
        }

        int becomeRescaled(Decimal a, int newScale, char way) {
            int more = newScale - a.scale;
            if (more < 0) {
                return becomeRatio(a.digits, powerOfTen(-more), newScale, way);
            }
            if (!a.canRaise(more)) {
                return REFUSED;
            }
            become(a.raised(more), newScale);
            return FINE;
        }

        int becomeQuotient(Decimal a, Decimal b, int newScale, char way) {
            int more = newScale + b.scale - a.scale;
            int moreAbove = Math.max(0, more);
            int moreBelow = Math.max(0, -more);
            if (!a.canRaise(moreAbove) || !b.canRaise(moreBelow)) {
                return REFUSED;
            }
            return becomeRatio(a.raised(moreAbove), b.raised(moreBelow), newScale, way);
        }

        int becomeExactQuotient(Decimal a, Decimal b) {
            int most = tenThirdsOf(b.countDigits());
            if (Math.max(a.countDigits(), b.countDigits()) + most > MOST_DIGITS) {
                return REFUSED;
            }
            // a divisor of n digits has fewer than ten thirds of n factors 2, and so of factors 5
            for (int more = 0; more <= most; more++) {
                if (becomeRatio(a.raised(more), b.digits, a.scale - b.scale + more, 'n') == FINE) {
                    return FINE;
                }
            }
            return UNDEFINED;
        }

        int becomeWholeQuotient(Decimal a, Decimal b) {
            int preferred = a.scale - b.scale;
            int precision = b.countDigits();
            int room = Math.max(a.countDigits(), precision) + tenThirdsOf(precision) + Math.abs(preferred) + 2;
            if (room > MOST_DIGITS) {
                return REFUSED;
            }
            if (becomeRatio(a.raised(-preferred), b.raised(preferred), 0, 'd') != FINE) {
                return UNDEFINED;
            }
            if (preferred >= 0) {
                become(raised(preferred), preferred);
            } else {
                dropZeros(-preferred);
            }
            return FINE;
        }

        int becomeRemainder(Decimal a, Decimal b) {
            int outcome = becomeWholeQuotient(a, b);
            if (outcome != FINE) {
                return outcome;
            }
            // the quotient's scale is never below that of a less that of b, so that a is raised
            int greater = scale + b.scale;
            become(a.raised(greater - a.scale) - digits * b.digits, greater);
            return FINE;
        }

        int becomeRounded(Decimal a, int most, char way) {
            int lost = a.countDigits() - most;
            if (most == 0 || lost <= 0) {
                becomeLike(a);
                return FINE;
            }
            int newScale = a.scale - lost;
            if (newScale < -MOST_SCALE) {
                return REFUSED;
            }
            int outcome = becomeRatio(a.digits, powerOfTen(lost), newScale, way);
            if (outcome == FINE && countDigits() > most) {
                become(digits / 10, newScale - 1);
            }
            return outcome;
        }

        void becomeBare(Decimal a) {
            becomeLike(a);
            if (digits == 0) {
                scale = 0;
            } else {
                dropZeros(MOST_DIGITS);
            }
        }

        private void dropZeros(int most) {
            for (int dropped = 0; dropped < most && digits % 10 == 0; dropped++) {
                become(digits / 10, scale - 1);
            }
        }

        int becomeMoved(Decimal a, int n) {
            int newScale = a.scale + n;
            if (newScale >= 0) {
                become(a.digits, newScale);
                return FINE;
            }
            if (!a.canRaise(-newScale)) {
                return REFUSED;
            }
            become(a.raised(-newScale), 0);
            return FINE;
        }

        int becomeRead(Signs text) {
            int mark = text.placeOfMark();
            if (text.countDigitsAhead(mark) > MOST_DIGITS || text.length - mark - 1 > MOST_BEHIND_MARK) {
                return REFUSED;
            }
            long read = 0;
            int count = 0;
            int point = mark;
            for (int place = isPlusOrMinus(text.at(0)) ? 1 : 0; place < mark; place++) {
                char sign = text.at(place);
                if (isDigit(sign)) {
                    read = 10 * read + (sign - '0');
                    count++;
                } else if (sign == '.' && point == mark) {
                    point = place;
                } else {
                    return NO_NUMBER;
                }
            }
            int exponent = text.exponentBehind(mark);
            if (count == 0 || exponent == NO_EXPONENT) {
                return NO_NUMBER;
            }
            int behind = Math.max(0, mark - 1 - point);
            become(text.at(0) == '-' ? -read : read, behind - exponent);
            return FINE;
        }
    }

    /** The theorem, checked for what slots hold; what an act refuses is passed over. */
    private static final class Theorem {
        private final Decimal one = new Decimal();
        private final Decimal other = new Decimal();
        private final Decimal turned = new Decimal();
        private final Decimal got = new Decimal();
        private final Decimal again = new Decimal();
        private final Decimal rest = new Decimal();
        private final Signs row = new Signs();
        private final Signs otherRow = new Signs();

        boolean holdsForOne() {
            return waysHold() && stepsHold() && isReadBack();
        }

        boolean holdsForBoth() {
            return isDivided() && isEqualByText() && isAlikeByDigits();
        }

        private boolean waysHold() {
            for (int scale = LEAST_CHECKED_SCALE; scale <= MOST_CHECKED_SCALE; scale++) {
                for (char way : WAYS) {
                    if (!isBetween(scale, way) || !isTurned(scale, way)) {
                        return false;
                    }
                }
            }
            return true;
        }

        private boolean isBetween(int scale, char way) {
            int outcome = got.becomeRescaled(one, scale, way);
            if (outcome == REFUSED) {
                return scale > one.scale;
            }
            long unit = powerOfTen(one.scale - scale);
            long floor = Math.floorDiv(one.digits, unit);
            boolean multiple = floor * unit == one.digits;
            if (way == 'n' && !multiple) {
                return outcome == UNDEFINED;
            }
            if (outcome != FINE || got.scale != scale) {
                return false;
            }
            return multiple ? got.comparedWith(one) == 0 : got.digits == neighbour(way, floor, unit);
        }

        /** The neighbour that the words of a way tell, of the floor and the one above it. */
        private long neighbour(char way, long floor, long unit) {
            long ceiling = floor + 1;
            long farther = one.digits < 0 ? floor : ceiling;
            long nearerTo0 = one.digits < 0 ? ceiling : floor;
            long toFloor = one.digits - floor * unit;
            long toCeiling = unit - toFloor;
            long nearer = toFloor < toCeiling ? floor : ceiling;
            switch (way) {
                case 'u':
                    return farther;
                case 'd':
                    return nearerTo0;
                case 'c':
                    return ceiling;
                case 'f':
                    return floor;
                case 'h':
                    return toFloor == toCeiling ? farther : nearer;
                case 'l':
                    return toFloor == toCeiling ? nearerTo0 : nearer;
                default:
                    return toFloor != toCeiling ? nearer : floor % 2 == 0 ? floor : ceiling;
            }
        }

        private boolean isTurned(int scale, char way) {
            turned.become(-one.digits, one.scale);
            int outcome = got.becomeRescaled(one, scale, way);
            int turnedOutcome = again.becomeRescaled(turned, scale, turnedWay(way));
            if (outcome != FINE || turnedOutcome != FINE) {
                return outcome == turnedOutcome;
            }
            return again.digits == -got.digits && again.scale == got.scale;
        }

        private static char turnedWay(char way) {
            return way == 'c' ? 'f' : way == 'f' ? 'c' : way;
        }

        private boolean stepsHold() {
            for (char way : STEADY_WAYS) {
                for (int middle = LEAST_CHECKED_SCALE + 1; middle <= MOST_CHECKED_SCALE; middle++) {
                    for (int scale = LEAST_CHECKED_SCALE; scale < middle; scale++) {
                        if (!isSameInTwoSteps(middle, scale, way)) {
                            return false;
                        }
                    }
                }
            }
            return true;
        }

        private boolean isSameInTwoSteps(int middle, int scale, char way) {
            if (again.becomeRescaled(one, middle, way) != FINE) {
                return true;
            }
            return got.becomeRescaled(again, scale, way) == FINE
                    && again.becomeRescaled(one, scale, way) == FINE
                    && got.isLike(again);
        }

        private boolean isReadBack() {
            row.becomePlain(one);
            int outcome = got.becomeRead(row);
            if (outcome != FINE) {
                return outcome == REFUSED;
            }
            return one.scale < 0 ? got.comparedWith(one) == 0 : got.isLike(one);
        }

        private boolean isDivided() {
            if (got.becomeWholeQuotient(one, other) != FINE) {
                return true;
            }
            return got.isWhole() && rest.becomeRemainder(one, other) == FINE && isSmallRest() && isMadeUp();
        }

        private boolean isSmallRest() {
            int side = Long.signum(rest.digits);
            return side == 0 || side == Long.signum(one.digits) && rest.comparedInSize(other) < 0;
        }

        private boolean isMadeUp() {
            return turned.becomeProduct(got, other) == FINE
                    && again.becomeSum(turned, rest) == FINE
                    && again.comparedWith(one) == 0;
        }

        private boolean isEqualByText() {
            if (one.scale != other.scale) {
                return !one.isLike(other);
            }
            row.becomePlain(one);
            otherRow.becomePlain(other);
            return one.isLike(other) == row.isLike(otherRow);
        }

        private boolean isAlikeByDigits() {
            got.becomeBare(one);
            again.becomeBare(other);
            return (one.comparedWith(other) == 0) == got.isLike(again);
        }
    }
}
