import java.math.BigDecimal;

/** What the document tells of numbers, ways and acts, clause by clause. */
public final class ActsTest extends Sentences {
    public static void main(String[] args) {
        ActsTest test = new ActsTest();
        test.numbers();
        test.nearNumbers();
        test.whatIsNotNearIsRefused();
        test.whatIsRaisedTooFarIsRefused();
        test.ways();
        test.sumsAndProducts();
        test.quotientsByScale();
        test.exactQuotients();
        test.wholeQuotientsAndRemainders();
        test.roundedToDigits();
        test.actsOnOne();
        test.end("Numbers", "Ways", "Acts");
    }

    // ---- Numbers

    private void numbers() {
        section("Numbers");
        sentence("There are the slots 0 to 7");
        for (int slot = 0; slot <= 7; slot++) {
            due(x.put(slot, 10 + slot, slot), 2);
        }
        for (int slot = 0; slot <= 7; slot++) {
            due(numberOf(slot), (10 + slot) + "/" + slot);
        }
        for (int slot : NO_SLOTS) {
            dueThrow(NO_SLOT, () -> x.put(slot, 1, 0));
            dueThrow(NO_SLOT, () -> x.scale(slot));
        }

        sentence("each with a number, 0 with the scale 0 at first");
        for (int slot = 0; slot <= 7; slot++) {
            due(numberOf(slot), "0/0");
        }

        sentence("digits, a whole number with its sign, and a scale: the digits divided by 10 to the power of the scale, "
                + "which can be below 0.");
        fresh(-25, 1, 25, -1, -7, 9, 7, -9);
        dueTold(0, "-2.5");
        dueTold(1, "250");
        dueTold(2, "-0.000000007");
        dueTold(3, "7000000000");

        sentence("The unit of a scale is 1 divided by 10 to its power.");
        for (int scale = -9; scale <= 9; scale++) {
            x.put(0, -123, scale);
            x.unit(0, 1);
            dueTold(1, BigDecimal.ONE.movePointLeft(scale).toPlainString());
        }

        sentence("The precision is how many digits there are, 1 for 0.");
        long power = 1;
        for (int count = 1; count <= 18; count++) {
            for (long digits : new long[] {power, -power, 10 * (power - 1) + 9, -(10 * (power - 1) + 9)}) {
                due(x.put(0, digits, 0), count);
                due(x.precision(0), count);
            }
            power *= 10;
        }
        for (int scale = -9; scale <= 9; scale++) {
            due(x.put(0, 0, scale), 1);
            due(x.precision(0), 1);
        }

        sentence("Two numbers are equal if their digits and scales are");
        fresh(150, 2, 150, 2, 15, 1, 150, 1, -150, 2, 151, 2);
        due(x.isEqual(0, 0), true);
        due(x.isEqual(0, 1), true);
        for (int other = 2; other <= 5; other++) {
            due(x.isEqual(0, other), false);
        }

        sentence("they compare alike if their values are the same.");
        fresh(150, 2, 15, 1, 0, 9, 0, -9, 1000000000, 9, 1, 0, 100000000000000000L, 8, 1, -9);
        for (int slot = 0; slot <= 7; slot += 2) {
            due(x.compare(slot, slot + 1), 0);
            due(x.compare(slot + 1, slot), 0);
            due(x.isEqual(slot, slot + 1), false);
        }
        x.put(7, 1000000001, 0);
        due(x.compare(6, 7), -1);
        due(x.compare(7, 6), 1);
    }

    private void nearNumbers() {
        sentence("A number is near if its scale is from -9 to 9, and its precision at most 18");
        for (long digits : new long[] {MOST, -MOST, 100000000000000000L, -100000000000000000L, 0, 1}) {
            for (int scale : new int[] {-9, 9, 0}) {
                dueNumber(x.put(0, digits, scale), 0, digits, scale);
            }
        }

        sentence("slots hold near ones alone.");
        for (long digits : new long[] {MOST + 1, -MOST - 1, Long.MAX_VALUE, Long.MIN_VALUE, Long.MIN_VALUE + 1}) {
            dueThrow(WRONG, () -> x.put(0, digits, 0));
        }
        for (int scale : new int[] {10, -10, 19, -19, 256, -256, Integer.MAX_VALUE, Integer.MIN_VALUE}) {
            dueThrow(WRONG, () -> x.put(0, 0, scale));
            dueThrow(WRONG, () -> x.put(0, 7, scale));
        }
    }

    private void whatIsNotNearIsRefused() {
        sentence("What an act comes to must be near, otherwise it is refused");
        fresh(MOST, 0, 1, 0, -MOST, 0, -1, 0, MOST - 1, 0);
        dueThrow(REFUSED, () -> x.sum(0, 1, 7));
        dueThrow(REFUSED, () -> x.sum(2, 3, 7));
        dueThrow(REFUSED, () -> x.sum(0, 0, 7));
        dueNumber(x.sum(4, 1, 7), 7, MOST, 0);
        dueThrow(REFUSED, () -> x.difference(0, 3, 7));
        dueThrow(REFUSED, () -> x.difference(2, 1, 7));
        dueThrow(REFUSED, () -> x.difference(2, 0, 7));
        dueNumber(x.difference(4, 3, 7), 7, MOST, 0);
        fresh(2, 5, 3, 4, 2, -5, 3, -4, 0, 5, 0, -5);
        dueNumber(x.product(0, 1, 7), 7, 6, 9);
        dueThrow(REFUSED, () -> x.product(0, 0, 7));
        dueThrow(REFUSED, () -> x.product(0, 4, 7));
        dueNumber(x.product(2, 3, 7), 7, 6, -9);
        dueThrow(REFUSED, () -> x.product(2, 2, 7));
        dueThrow(REFUSED, () -> x.product(5, 5, 7));
        fresh(2, 3, 2, -3, 2, 1, 2, 2, 0, -2);
        dueNumber(x.power(0, 3, 7), 7, 8, 9);
        dueThrow(REFUSED, () -> x.power(0, 4, 7));
        dueNumber(x.power(1, 3, 7), 7, 8, -9);
        dueThrow(REFUSED, () -> x.power(1, 4, 7));
        dueNumber(x.power(2, 9, 7), 7, 512, 9);
        dueThrow(REFUSED, () -> x.power(3, 5, 7));
        dueThrow(REFUSED, () -> x.power(4, 5, 7));
        dueDivisionsThatAreNotNear();
        fresh(95, -8, 94, -8, -96, -7, 10, -9, 10, -8, 10, 9);
        dueThrow(REFUSED, () -> x.round(0, 1, 'h', 7));
        dueNumber(x.round(1, 1, 'h', 7), 7, 9, -9);
        dueNumber(x.round(2, 1, 'h', 7), 7, -1, -9);
        dueThrow(REFUSED, () -> x.bare(3, 7));
        dueNumber(x.bare(4, 7), 7, 1, -9);
        dueNumber(x.move(4, 9, 7), 7, 10, 1);
        dueThrow(REFUSED, () -> x.move(5, 1, 7));
        dueNumber(x.times(4, 1, 7), 7, 10, -9);
        dueThrow(REFUSED, () -> x.times(4, 2, 7));
        dueNumber(x.times(5, 9, 7), 7, 10, 0);
        dueThrow(REFUSED, () -> x.times(5, -1, 7));
        dueTextsThatAreNotNear();
    }

    private void dueDivisionsThatAreNotNear() {
        fresh(6, 4, 3, -5, 6, 5, 6, -5, 3, 4, 3, 5);
        dueNumber(x.exactQuotient(0, 1, 7), 7, 2, 9);
        dueThrow(REFUSED, () -> x.exactQuotient(2, 1, 7));
        dueNumber(x.exactQuotient(3, 4, 7), 7, 2, -9);
        dueThrow(REFUSED, () -> x.exactQuotient(3, 5, 7));
        x.put(6, 0, 5);
        dueThrow(REFUSED, () -> x.exactQuotient(6, 1, 7));
        dueNumber(x.wholeQuotient(3, 4, 7), 7, 2, -9);
        dueThrow(REFUSED, () -> x.wholeQuotient(3, 5, 7));
        dueNumber(x.wholeQuotient(0, 1, 7), 7, 0, 9);
        dueThrow(REFUSED, () -> x.wholeQuotient(2, 1, 7));
        dueThrow(REFUSED, () -> x.wholeQuotient(6, 1, 7));
        fresh(1, 0, 512, 0, 1024, 0);
        dueNumber(x.exactQuotient(0, 1, 7), 7, 1953125, 9);
        dueThrow(REFUSED, () -> x.exactQuotient(0, 2, 7));
    }

    private void dueTextsThatAreNotNear() {
        for (String text : new String[] {"1E10", "1E-10", "0e10", "-0.0e-9", "0.0000000001", "1e9999", "1e-999"}) {
            type(text);
            dueThrow(REFUSED, () -> x.read(7));
        }
        type("1E9");
        dueNumber(x.read(7), 7, 1, -9);
        type("1E-9");
        dueNumber(x.read(7), 7, 1, 9);
    }

    private void whatIsRaisedTooFarIsRefused() {
        sentence("so it is where digits must be raised, that is multiplied by a power of 10, and the precision and the "
                + "exponent of that are together more than 18, 0 too.");
        for (int precision = 1; precision <= 18; precision++) {
            long least = BigDecimal.TEN.pow(precision - 1).longValue();
            long most = 10 * (least - 1) + 9;
            for (int by = 1; by <= 18; by++) {
                dueRaised(least, by, precision + by > 18);
                dueRaised(-most, by, precision + by > 18);
            }
        }
        for (int by = 1; by <= 18; by++) {
            dueRaised(0, by, by > 17);
        }
    }

    /** In each of these calls the digits must be raised by so many places. */
    private void dueRaised(long digits, int by, boolean refused) {
        int scale = by - 9;
        fresh(digits, -9, 0, scale, 1, 0, digits, -8);
        due(isRefused(() -> x.sum(0, 1, 7)), refused);
        due(isRefused(() -> x.sum(1, 0, 7)), refused);
        due(isRefused(() -> x.difference(0, 1, 7)), refused);
        due(isRefused(() -> x.difference(1, 0, 7)), refused);
        due(isRefused(() -> x.rescale(0, scale, 'n', 7)), refused);
        due(isRefused(() -> x.quotient(0, 2, scale, 'n', 7)), refused);
        due(isRefused(() -> x.quotient(1, 0, 0, 'n', 7)), refused);
        int n = by == 9 ? -1 : 9 - by;
        due(isRefused(() -> x.move(by == 9 ? 3 : 0, n, 7)), refused);
    }

    // ---- Ways

    private void ways() {
        section("Ways");
        sentence("A value that is no multiple of a unit lies between two neighbours, F below and C above.");
        dueWay('f', 21, 1, 2);
        dueWay('c', 21, 1, 3);
        dueWay('f', -21, 1, -3);
        dueWay('c', -21, 1, -2);
        for (char way : WAYS) {
            dueWay(way, 20, 1, 2);
            dueWay(way, -20, 1, -2);
            dueWay(way, 0, 1, 0);
        }

        sentence("'u' takes the one farther from 0");
        dueWay('u', 1, 9, 1);
        dueWay('u', -1, 9, -1);
        dueWay('u', 25, 1, 3);
        dueWay('u', -21, 1, -3);

        sentence("'d' the one nearer to 0");
        dueWay('d', 9, 1, 0);
        dueWay('d', -9, 1, 0);
        dueWay('d', 29, 1, 2);
        dueWay('d', -25, 1, -2);

        sentence("'c' C");
        dueWay('c', 1, 9, 1);
        dueWay('c', -9, 1, 0);
        dueWay('c', -29, 1, -2);
        dueWay('c', 25, 1, 3);

        sentence("'f' F");
        dueWay('f', 9, 1, 0);
        dueWay('f', -1, 9, -1);
        dueWay('f', -21, 1, -3);
        dueWay('f', 29, 1, 2);

        sentence("'h' the nearer one, of like ones that farther from 0");
        dueHalves('h', 1, 2, 3);
        dueWay('h', 5, 1, 1);
        dueWay('h', -5, 1, -1);

        sentence("'l' the nearer one, of like ones that nearer to 0");
        dueHalves('l', 0, 1, 2);
        dueWay('l', 5, 1, 0);
        dueWay('l', -5, 1, 0);

        sentence("'e' the nearer one, of like ones that whose last digit is even");
        dueHalves('e', 0, 2, 2);
        dueWay('e', 95, 1, 10);
        dueWay('e', -95, 1, -10);
        dueWay('e', 105, 1, 10);

        sentence("and 'n' takes neither (ArithmeticException).");
        for (long[] number : new long[][] {{1, 9}, {-1, 9}, {25, 1}, {-25, 1}, {MOST, 9}, {1001, 3}}) {
            fresh(number[0], number[1], 1, 0, 2, 0);
            dueThrow(UNDEFINED, () -> x.rescale(0, 0, 'n', 7));
            dueThrow(UNDEFINED, () -> x.quotient(0, 1, 0, 'n', 7));
        }
        for (long digits : new long[] {11, -11, 99, 101, -MOST, MOST - 9}) {
            fresh(digits, 9);
            dueThrow(UNDEFINED, () -> x.round(0, 1, 'n', 7));
        }
        fresh(7, 0, 2, 0);
        dueThrow(UNDEFINED, () -> x.quotient(0, 1, 0, 'n', 7));
        dueNumber(x.quotient(0, 1, 1, 'n', 7), 7, 35, 1);
    }

    /** What a number comes to at the scale 0, be it rescaled, divided, or rounded to its digits ahead of the point. */
    private void dueWay(char way, long digits, int scale, long want) {
        fresh(digits, scale, 1, 0, -1, 0, -digits, scale);
        dueNumber(x.rescale(0, 0, way, 7), 7, want, 0);
        dueNumber(x.quotient(0, 1, 0, way, 7), 7, want, 0);
        dueNumber(x.quotient(3, 2, 0, way, 7), 7, want, 0);
        int ahead = x.precision(0) - scale;
        if (ahead > 0) {
            x.round(0, ahead, way, 7);
            x.rescale(7, 0, 'n', 7);
            due(numberOf(7), want + "/0");
        }
    }

    /** Ties of 0.5, 1.5 and 2.5, near ones on both sides, and ties of quotients and of the longest digits. */
    private void dueHalves(char way, long half, long oneAndHalf, long twoAndHalf) {
        long[] want = {half, oneAndHalf, twoAndHalf};
        for (int whole = 0; whole <= 2; whole++) {
            for (int side = -1; side <= 1; side += 2) {
                long tie = 10 * whole + 5;
                dueWay(way, side * tie, 1, side * want[whole]);
                dueWay(way, side * (100 * tie - 1), 3, side * whole);
                dueWay(way, side * (100 * tie + 1), 3, side * (whole + 1));
                fresh(side * (2 * whole + 1), 0, 2, 0, -2, 0, 10 * whole + 5, 0, side * 10, 0);
                dueNumber(x.quotient(0, 1, 0, way, 7), 7, side * want[whole], 0);
                dueNumber(x.quotient(0, 2, 0, way, 7), 7, -side * want[whole], 0);
                dueNumber(x.quotient(3, 4, 0, way, 7), 7, side * want[whole], 0);
            }
        }
        long tie = 500000000000000000L;
        fresh(tie, 9, tie - 1, 9, tie + 1, 9, 1, 0, MOST, 0, 2, 0);
        dueNumber(x.rescale(0, -9, way, 7), 7, half, -9);
        dueNumber(x.rescale(1, -9, way, 7), 7, 0, -9);
        dueNumber(x.rescale(2, -9, way, 7), 7, 1, -9);
        dueNumber(x.quotient(4, 5, 0, way, 7), 7, way == 'l' ? tie - 1 : tie, 0);
    }

    // ---- Acts

    private void sumsAndProducts() {
        section("Acts");
        sentence("A sum, and a difference, has the greater scale of both");
        fresh(125, 2, 5, 0, -3, -4, 0, 9);
        dueNumber(x.sum(0, 1, 7), 7, 625, 2);
        dueNumber(x.sum(1, 0, 7), 7, 625, 2);
        dueNumber(x.difference(0, 1, 7), 7, -375, 2);
        dueNumber(x.difference(1, 0, 7), 7, 375, 2);
        dueNumber(x.sum(2, 2, 7), 7, -6, -4);
        dueNumber(x.difference(2, 2, 7), 7, 0, -4);
        dueNumber(x.sum(1, 3, 7), 7, 5000000000L, 9);
        dueNumber(x.difference(3, 1, 7), 7, -5000000000L, 9);

        sentence("the digits of the other one are raised to it.");
        fresh(7, -8, 3, 9, 70, -8);
        dueNumber(x.sum(0, 1, 7), 7, 700000000000000003L, 9);
        dueNumber(x.difference(1, 0, 7), 7, -699999999999999997L, 9);
        dueThrow(REFUSED, () -> x.sum(2, 1, 7));
        dueThrow(REFUSED, () -> x.difference(1, 2, 7));

        sentence("A product has the sum of the scales");
        fresh(-125, 2, 50, -1, 0, -9, 3, 9);
        dueNumber(x.product(0, 1, 7), 7, -6250, 1);
        dueNumber(x.product(2, 3, 7), 7, 0, 0);
        dueNumber(x.product(2, 0, 7), 7, 0, -7);

        sentence("a power so many times the scale");
        fresh(-12, 1, 3, -2, 1, 9, 2, -9);
        dueNumber(x.power(0, 9, 7), 7, -5159780352L, 9);
        dueNumber(x.power(0, 2, 7), 7, 144, 2);
        dueNumber(x.power(1, 4, 7), 7, 81, -8);
        dueNumber(x.power(2, 1, 7), 7, 1, 9);
        dueNumber(x.power(3, 1, 7), 7, 2, -9);

        sentence("a power by 0 the digits 1 and the scale 0.");
        fresh(MOST, 9, 0, 5, -7, -9);
        dueNumber(x.power(0, 0, 7), 7, 1, 0);
        dueNumber(x.power(1, 0, 7), 7, 1, 0);
        dueNumber(x.power(2, 0, 7), 7, 1, 0);
    }

    private void quotientsByScale() {
        sentence("A number with another scale, greater or less, is rounded to it.");
        fresh(-125, 2, MOST, 9, 0, -9);
        dueNumber(x.rescale(0, 9, 'n', 7), 7, -1250000000, 9);
        dueNumber(x.rescale(0, 2, 'n', 7), 7, -125, 2);
        dueNumber(x.rescale(0, 1, 'f', 7), 7, -13, 1);
        dueNumber(x.rescale(0, -9, 'f', 7), 7, -1, -9);
        dueNumber(x.rescale(0, -9, 'c', 7), 7, 0, -9);
        dueNumber(x.rescale(1, 0, 'u', 7), 7, 1000000000, 0);
        dueNumber(x.rescale(1, -9, 'd', 7), 7, 0, -9);
        dueNumber(x.rescale(2, 8, 'n', 7), 7, 0, 8);

        sentence("A quotient by a scale is the value of both, divided, rounded to it");
        fresh(10, 0, 3, 0, -1, 9, -3, 0);
        dueNumber(x.quotient(0, 1, 9, 'd', 7), 7, 3333333333L, 9);
        dueNumber(x.quotient(0, 1, 0, 'u', 7), 7, 4, 0);
        dueNumber(x.quotient(0, 1, -9, 'u', 7), 7, 1, -9);
        dueNumber(x.quotient(0, 1, -9, 'h', 7), 7, 0, -9);
        dueNumber(x.quotient(2, 3, 9, 'c', 7), 7, 1, 9);
        dueNumber(x.quotient(2, 3, 9, 'f', 7), 7, 0, 9);
        dueNumber(x.quotient(2, 1, 9, 'f', 7), 7, -1, 9);

        sentence("ahead of that the digits of the first one are raised by the scale and that of the second one less that of "
                + "the first one, if that is above 0, otherwise those of the second one by as much.");
        fresh(1234, 0, 1, 5, 12345, 0, MOST, 9, 1, 0);
        dueNumber(x.quotient(0, 1, 9, 'n', 7), 7, 123400000000000000L, 9);
        dueThrow(REFUSED, () -> x.quotient(2, 1, 9, 'n', 7));
        dueThrow(REFUSED, () -> x.quotient(2, 1, 9, 'd', 7));
        dueNumber(x.quotient(2, 1, 8, 'n', 7), 7, 123450000000000000L, 8);
        dueNumber(x.quotient(3, 4, 9, 'n', 7), 7, MOST, 9);
        dueNumber(x.quotient(3, 4, -8, 'u', 7), 7, 10, -8);
        dueThrow(REFUSED, () -> x.quotient(3, 4, -9, 'd', 7));
        fresh(5, 9, 12, -7, 1, -8, 1, -9, 0, -9);
        dueNumber(x.quotient(0, 1, 0, 'u', 7), 7, 1, 0);
        dueThrow(REFUSED, () -> x.quotient(0, 1, -1, 'u', 7));
        dueNumber(x.quotient(0, 2, 0, 'd', 7), 7, 0, 0);
        dueThrow(REFUSED, () -> x.quotient(0, 3, 0, 'd', 7));
        dueThrow(REFUSED, () -> x.quotient(0, 4, 0, 'd', 7));
        fresh(0, -9, 3, 0, 3, -1);
        dueNumber(x.quotient(0, 1, 8, 'n', 7), 7, 0, 8);
        dueThrow(REFUSED, () -> x.quotient(0, 1, 9, 'n', 7));
        dueNumber(x.quotient(0, 2, 9, 'n', 7), 7, 0, 9);
    }

    private void exactQuotients() {
        sentence("An exact quotient has the scale of the first one less that of the second one, if its value is a multiple "
                + "of that unit");
        fresh(-600, 2, 3, 0, 600, 0, 3, 2, 0, 3, 1234, -6);
        dueNumber(x.exactQuotient(0, 1, 7), 7, -200, 2);
        dueNumber(x.exactQuotient(2, 3, 7), 7, 200, -2);
        dueNumber(x.exactQuotient(4, 5, 7), 7, 0, 9);
        fresh(7, -9, 7, 0, 7, 9);
        dueNumber(x.exactQuotient(0, 1, 7), 7, 1, -9);
        dueNumber(x.exactQuotient(2, 1, 7), 7, 1, 9);
        dueNumber(x.exactQuotient(0, 0, 7), 7, 1, 0);

        sentence("otherwise the least scale above that of which it is");
        fresh(10, 0, 4, 0, 1, -4, 8192, 0, 9999, -4, 8, 1, 1, 0);
        dueNumber(x.exactQuotient(0, 1, 7), 7, 25, 1);
        dueNumber(x.exactQuotient(1, 0, 7), 7, 4, 1);
        dueNumber(x.exactQuotient(2, 3, 7), 7, 1220703125, 9);
        dueNumber(x.exactQuotient(4, 3, 7), 7, 12205810546875L, 9);
        dueNumber(x.exactQuotient(6, 5, 7), 7, 125, 2);
        fresh(3, -9, 6, 9, 1, 4, 9765, 4, 5, 0, 1, 9);
        dueThrow(REFUSED, () -> x.exactQuotient(0, 1, 7));
        dueThrow(UNDEFINED, () -> x.exactQuotient(2, 3, 7));
        dueThrow(REFUSED, () -> x.exactQuotient(5, 4, 7));

        sentence("the greater one of both precisions, and ten thirds of the second one's precision, rounded up to a whole "
                + "number, must not be more than 18 together.");
        dueExactAtMost(14, 1);
        dueExactAtMost(11, 2);
        dueExactAtMost(8, 3);
        dueExactAtMost(4, 4);
        for (int precision = 5; precision <= 18; precision++) {
            long divisor = BigDecimal.TEN.pow(precision - 1).longValue();
            fresh(0, 0, divisor, 0, divisor, 0);
            dueThrow(REFUSED, () -> x.exactQuotient(0, 1, 7));
            dueThrow(REFUSED, () -> x.exactQuotient(2, 1, 7));
        }
    }

    private void dueExactAtMost(int most, int ofDivisor) {
        long divisor = BigDecimal.TEN.pow(ofDivisor - 1).longValue();
        long longest = BigDecimal.TEN.pow(most).longValue() - 1;
        fresh(longest, 0, divisor, 0, -longest - 1, 0, 0, 0, 10 * (divisor - 1) + 9, 0);
        dueNumber(x.exactQuotient(0, 1, 7), 7, longest, ofDivisor - 1);
        dueThrow(REFUSED, () -> x.exactQuotient(2, 1, 7));
        dueThrow(REFUSED, () -> x.exactQuotient(2, 4, 7));
        dueNumber(x.exactQuotient(3, 1, 7), 7, 0, 0);
        dueNumber(x.exactQuotient(3, 4, 7), 7, 0, 0);
    }

    private void wholeQuotientsAndRemainders() {
        sentence("A whole quotient is the value of both, divided, cut toward 0");
        fresh(-75, 1, 2, 0, 99, 0, 100, 0, -199, 0);
        dueNumber(x.wholeQuotient(0, 1, 7), 7, -30, 1);
        dueNumber(x.wholeQuotient(2, 3, 7), 7, 0, 0);
        dueNumber(x.wholeQuotient(4, 3, 7), 7, -1, 0);
        dueNumber(x.wholeQuotient(3, 2, 7), 7, 1, 0);

        sentence("with the scale of the first one less that of the second one, if it is a multiple of that unit");
        fresh(9, -2, 3, 0, 72, -2, 6, 1, 1, 0, 2, -1, 0, -4);
        dueNumber(x.wholeQuotient(0, 1, 7), 7, 3, -2);
        dueNumber(x.wholeQuotient(2, 3, 7), 7, 12, -3);
        dueNumber(x.wholeQuotient(4, 5, 7), 7, 0, 1);
        dueNumber(x.wholeQuotient(6, 3, 7), 7, 0, -5);
        fresh(1230, -2, 41, -1, 7, 5, 1, 0, 2, 4);
        dueNumber(x.wholeQuotient(0, 1, 7), 7, 30, -1);
        dueNumber(x.wholeQuotient(3, 2, 7), 7, 14285, 0);
        dueNumber(x.wholeQuotient(4, 2, 7), 7, 2, 0);

        sentence("otherwise the least scale above that of which it is");
        fresh(7, -2, 3, 0, 1, -3, 3, 1, 71, -3, 7, 0, 8, -3);
        dueNumber(x.wholeQuotient(0, 1, 7), 7, 233, 0);
        dueNumber(x.wholeQuotient(2, 3, 7), 7, 3333, 0);
        dueNumber(x.wholeQuotient(4, 5, 7), 7, 10142, 0);
        dueNumber(x.wholeQuotient(6, 3, 7), 7, 26666, 0);
        fresh(1, -3, 8, 0, 1, -2, 4, 0, 9, -4, 4, 0);
        dueNumber(x.wholeQuotient(0, 1, 7), 7, 125, 0);
        dueNumber(x.wholeQuotient(2, 3, 7), 7, 25, 0);
        dueNumber(x.wholeQuotient(4, 5, 7), 7, 225, -2);

        sentence("a remainder is the first one less the product of that and the second one");
        fresh(-75, 1, 2, 0, 99, 0, 100, 0, -199, 0, 25, 0, 5, 0);
        dueNumber(x.remainder(0, 1, 7), 7, -15, 1);
        dueNumber(x.remainder(2, 3, 7), 7, 99, 0);
        dueNumber(x.remainder(4, 3, 7), 7, -99, 0);
        dueNumber(x.remainder(5, 6, 7), 7, 0, 0);

        sentence("with the scale that this difference has");
        fresh(7, -2, 3, 0, 9, -2, 1, 0, 7, 2, 5, 1, 5, -3);
        dueNumber(x.remainder(0, 1, 7), 7, 1, 0);
        dueNumber(x.remainder(2, 1, 7), 7, 0, -2);
        dueNumber(x.remainder(3, 4, 7), 7, 2, 2);
        dueNumber(x.remainder(5, 6, 7), 7, 5, 1);
        dueNumber(x.remainder(6, 5, 7), 7, 0, -3);

        sentence("also where that quotient is not near");
        fresh(5, 5, 3, -5, 7, -2, 7, 9, 6, -2, 0, 6, 1, -6);
        dueThrow(REFUSED, () -> x.wholeQuotient(0, 1, 7));
        dueNumber(x.remainder(0, 1, 7), 7, 5, 5);
        dueThrow(REFUSED, () -> x.wholeQuotient(2, 3, 7));
        dueNumber(x.remainder(2, 3, 7), 7, 0, -2);
        dueNumber(x.remainder(4, 3, 7), 7, 2, 9);
        dueThrow(REFUSED, () -> x.remainder(5, 6, 7));
        x.put(6, 1, -5);
        dueThrow(REFUSED, () -> x.wholeQuotient(5, 6, 7));
        dueNumber(x.remainder(5, 6, 7), 7, 0, 6);

        sentence("for either, the greater one of both precisions, ten thirds of the second one's precision, rounded up "
                + "likewise, by how much their scales differ, and 2 must not be more than 18 together.");
        for (int apart = 0; apart <= 11; apart++) {
            dueWholeAtMost(12 - apart, 1, apart);
        }
        for (int apart = 0; apart <= 7; apart++) {
            dueWholeAtMost(9 - apart, 2, apart);
        }
        for (int apart = 0; apart <= 3; apart++) {
            dueWholeAtMost(6 - apart, 3, apart);
        }
        for (int precision = 4; precision <= 18; precision++) {
            fresh(0, 0, BigDecimal.TEN.pow(precision - 1).longValue(), 0);
            dueThrow(REFUSED, () -> x.wholeQuotient(0, 1, 7));
            dueThrow(REFUSED, () -> x.remainder(0, 1, 7));
        }
    }

    /** At most so many digits may be divided by such a divisor where the scales differ so much, on either side. */
    private void dueWholeAtMost(int most, int ofDivisor, int apart) {
        long divisor = BigDecimal.TEN.pow(ofDivisor - 1).longValue();
        long longest = BigDecimal.TEN.pow(most).longValue() - 1;
        int half = apart / 2;
        for (int side = -1; side <= 1; side += 2) {
            fresh(longest, side * half, divisor, side * (half - apart), longest + 1, side * half);
            x.put(3, side * 7L, side * half - side);
            due(isDone(() -> x.remainder(0, 1, 7)), true);
            due(isDone(() -> x.wholeQuotient(0, 1, 7)), apart <= 9);
            dueThrow(REFUSED, () -> x.remainder(2, 1, 7));
            dueThrow(REFUSED, () -> x.wholeQuotient(2, 1, 7));
            fresh(longest, side * (half + 1), divisor, side * (half - apart));
            dueThrow(REFUSED, () -> x.remainder(0, 1, 7));
            dueThrow(REFUSED, () -> x.wholeQuotient(0, 1, 7));
            if (ofDivisor == most) {
                fresh(1, side * half, 10 * (divisor - 1) + 9, side * (half - apart), 1, side * (half + 1));
                due(isDone(() -> x.remainder(0, 1, 7)), true);
                dueThrow(REFUSED, () -> x.remainder(2, 1, 7));
                dueThrow(REFUSED, () -> x.wholeQuotient(2, 1, 7));
            }
        }
    }

    private void roundedToDigits() {
        sentence("Rounded to so many digits a number that has more loses the last ones, its scale becoming less by as many, "
                + "and is rounded as told of the unit of that scale");
        fresh(123456789, 4, MOST, 9, 1200, 2, -250, 1, 0, -9);
        dueNumber(x.round(0, 5, 'f', 7), 7, 12345, 0);
        dueNumber(x.round(0, 5, 'c', 7), 7, 12346, 0);
        dueNumber(x.round(0, 1, 'u', 7), 7, 2, -4);
        dueNumber(x.round(0, 8, 'h', 7), 7, 12345679, 3);
        dueNumber(x.round(0, 9, 'n', 7), 7, 123456789, 4);
        dueNumber(x.round(0, 10, 'n', 7), 7, 123456789, 4);
        dueNumber(x.round(0, 18, 'n', 7), 7, 123456789, 4);
        dueNumber(x.round(1, 18, 'n', 7), 7, MOST, 9);
        dueNumber(x.round(1, 17, 'd', 7), 7, MOST / 10, 8);
        dueNumber(x.round(1, 1, 'd', 7), 7, 9, -8);
        dueNumber(x.round(2, 2, 'n', 7), 7, 12, 0);
        dueNumber(x.round(2, 3, 'n', 7), 7, 120, 1);
        dueThrow(UNDEFINED, () -> x.round(2, 1, 'n', 7));
        dueNumber(x.round(3, 1, 'e', 7), 7, -2, -1);
        dueNumber(x.round(4, 1, 'n', 7), 7, 0, -9);

        sentence("where it has one digit more by that, which is 0, it loses that, too");
        fresh(-9999, 1, MOST, 9, 95, 0, 949, 2);
        dueNumber(x.round(0, 3, 'h', 7), 7, -100, -1);
        dueNumber(x.round(0, 3, 'f', 7), 7, -100, -1);
        dueNumber(x.round(0, 3, 'c', 7), 7, -999, 0);
        dueNumber(x.round(0, 1, 'u', 7), 7, -1, -3);
        dueNumber(x.round(0, 4, 'u', 7), 7, -9999, 1);
        dueNumber(x.round(1, 17, 'h', 7), 7, 10000000000000000L, 7);
        dueNumber(x.round(1, 1, 'c', 7), 7, 1, -9);
        dueNumber(x.round(2, 1, 'h', 7), 7, 1, -2);
        dueNumber(x.round(2, 1, 'l', 7), 7, 9, -1);
        dueNumber(x.round(3, 1, 'h', 7), 7, 9, 0);
        dueNumber(x.round(3, 2, 'u', 7), 7, 95, 1);

        sentence("to 0 digits it stays");
        for (char way : WAYS) {
            fresh(MOST, 9, -12345, -9, 0, 3);
            dueNumber(x.round(0, 0, way, 7), 7, MOST, 9);
            dueNumber(x.round(1, 0, way, 7), 7, -12345, -9);
            dueNumber(x.round(2, 0, way, 7), 7, 0, 3);
        }

        sentence("it is refused ahead of being rounded if the scale so becomes less than -9.");
        fresh(12, -9, 10, -9, 121, -8, 12, -8, MOST, 8);
        for (char way : WAYS) {
            dueThrow(REFUSED, () -> x.round(0, 1, way, 7));
            dueThrow(REFUSED, () -> x.round(1, 1, way, 7));
            dueThrow(REFUSED, () -> x.round(2, 1, way, 7));
            due(isRefused(() -> x.round(3, 1, way, 7)), false);
            due(isRefused(() -> x.round(2, 2, way, 7)), false);
        }
        dueNumber(x.round(4, 1, 'd', 7), 7, 9, -9);
        x.put(4, MOST, 7);
        dueThrow(REFUSED, () -> x.round(4, 1, 'n', 7));
    }

    private void actsOnOne() {
        sentence("Without zeros at its end a number has the least scale at which its value is told by whole digits");
        fresh(-1200, 3, 100, 0, 100000000000000000L, 8, 10, -9, 10, -8, 7, -9, 1001, 9);
        dueNumber(x.bare(0, 7), 7, -12, 1);
        dueNumber(x.bare(1, 7), 7, 1, -2);
        dueNumber(x.bare(2, 7), 7, 1, -9);
        dueThrow(REFUSED, () -> x.bare(3, 7));
        dueNumber(x.bare(4, 7), 7, 1, -9);
        dueNumber(x.bare(5, 7), 7, 7, -9);
        dueNumber(x.bare(6, 7), 7, 1001, 9);
        dueNumber(x.bare(7, 7), 7, 1001, 9);

        sentence("0 has the scale 0.");
        for (int scale = -9; scale <= 9; scale++) {
            fresh(0, scale);
            dueNumber(x.bare(0, 7), 7, 0, 0);
        }

        sentence("With the point moved to the left by n it has the scale and n, at least 0");
        fresh(-125, 2, -125, 0, 0, -3, 5, -1);
        dueNumber(x.move(0, 7, 7), 7, -125, 9);
        dueThrow(REFUSED, () -> x.move(0, 8, 7));
        dueNumber(x.move(1, 9, 7), 7, -125, 9);
        dueNumber(x.move(2, 3, 7), 7, 0, 0);
        dueNumber(x.move(2, 2, 7), 7, 0, 0);
        dueNumber(x.move(2, 4, 7), 7, 0, 1);
        dueNumber(x.move(3, 1, 7), 7, 5, 0);

        sentence("its digits being raised where the scale would be below 0");
        fresh(-125, 2, 15, -9, 15, -2, 0, -9);
        dueNumber(x.move(0, -3, 7), 7, -1250, 0);
        dueNumber(x.move(1, -7, 7), 7, 150000000000000000L, 0);
        dueThrow(REFUSED, () -> x.move(1, -8, 7));
        dueNumber(x.move(2, 1, 7), 7, 150, 0);
        dueNumber(x.move(3, -8, 7), 7, 0, 0);
        dueThrow(REFUSED, () -> x.move(3, -9, 7));

        sentence("n can be below 0.");
        fresh(-125, 2, MOST, 9);
        dueNumber(x.move(0, -1, 7), 7, -125, 1);
        dueNumber(x.move(0, -2, 7), 7, -125, 0);
        dueNumber(x.move(0, -9, 7), 7, -1250000000, 0);
        dueNumber(x.move(1, -9, 7), 7, MOST, 0);

        sentence("Times a power of ten it has the scale less the exponent.");
        fresh(-125, 2, MOST, -4, 0, 9);
        dueNumber(x.times(0, 3, 7), 7, -125, -1);
        dueNumber(x.times(0, -7, 7), 7, -125, 9);
        dueThrow(REFUSED, () -> x.times(0, -8, 7));
        dueNumber(x.times(0, 0, 7), 7, -125, 2);
        dueNumber(x.times(0, 9, 7), 7, -125, -7);
        dueNumber(x.times(1, 5, 7), 7, MOST, -9);
        dueThrow(REFUSED, () -> x.times(1, 6, 7));
        dueThrow(REFUSED, () -> x.times(2, -1, 7));

        sentence("Its unit as a number has the digits 1 and its scale.");
        fresh(-125, 2, 0, -9, MOST, 9);
        dueNumber(x.unit(0, 7), 7, 1, 2);
        dueNumber(x.unit(1, 7), 7, 1, -9);
        dueNumber(x.unit(2, 7), 7, 1, 9);

        sentence("The lesser and the greater of two that compare alike is the first one.");
        fresh(150, 2, 15, 1, 0, 9, 0, -9);
        dueNumber(x.least(0, 1, 7), 7, 150, 2);
        dueNumber(x.least(1, 0, 7), 7, 15, 1);
        dueNumber(x.greatest(0, 1, 7), 7, 150, 2);
        dueNumber(x.greatest(1, 0, 7), 7, 15, 1);
        dueNumber(x.least(2, 3, 7), 7, 0, 9);
        dueNumber(x.least(3, 2, 7), 7, 0, -9);
        dueNumber(x.greatest(2, 3, 7), 7, 0, 9);
        dueNumber(x.greatest(3, 2, 7), 7, 0, -9);
    }
}
