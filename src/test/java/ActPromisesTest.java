/** The promises 16 to 33, the acts, sentence by sentence. What they come to is told by ActsTest in more depth. */
public final class ActPromisesTest extends Sentences {
    private static final String NO_SUCH_SLOT = "Throws `IndexOutOfBoundsException` if there is no such slot, for any";
    private static final String IF_REFUSED = "Throws `UnsupportedOperationException` if it is refused";
    private static final String PRECISION = "Returns its precision.";
    private static final String THE_WAYS = "- `way`: 'u', 'd', 'c', 'f', 'h', 'l', 'e' or 'n'";

    private interface OnOne {
        int answer(int a, int to);
    }

    private interface OnTwo {
        int answer(int a, int b, int to);
    }

    private interface ByNumber {
        int answer(int number);
    }

    private interface ByWay {
        int answer(char way);
    }

    public static void main(String[] args) {
        ActPromisesTest test = new ActPromisesTest();
        test.sum();
        test.difference();
        test.product();
        test.power();
        test.turn();
        test.size();
        test.least();
        test.greatest();
        test.rescale();
        test.quotient();
        test.exactQuotient();
        test.wholeQuotient();
        test.remainder();
        test.round();
        test.unit();
        test.bare();
        test.move();
        test.times();
        test.end("Promise 16: sum", "Promise 17: difference", "Promise 18: product", "Promise 19: power", "Promise 20: turn",
                "Promise 21: size", "Promise 22: least", "Promise 23: greatest", "Promise 24: rescale", "Promise 25: quotient",
                "Promise 26: exactQuotient", "Promise 27: wholeQuotient", "Promise 28: remainder", "Promise 29: round",
                "Promise 30: unit", "Promise 31: bare", "Promise 32: move", "Promise 33: times");
    }

    // ---- helpers

    private void dueSlots(OnOne act) {
        for (int slot : NO_SLOTS) {
            dueThrow(NO_SLOT, () -> act.answer(slot, 0));
            dueThrow(NO_SLOT, () -> act.answer(0, slot));
        }
        act.answer(7, 6);
        act.answer(6, 7);
    }

    /** Neither of both slots may be missing, nor that which becomes it. */
    private void dueSlots(OnTwo act) {
        ones();
        for (int slot : NO_SLOTS) {
            dueThrow(NO_SLOT, () -> act.answer(slot, 0, 1));
            dueThrow(NO_SLOT, () -> act.answer(0, slot, 1));
            dueThrow(NO_SLOT, () -> act.answer(0, 1, slot));
        }
        act.answer(0, 7, 6);
        ones();
        act.answer(7, 6, 0);
        ones();
        act.answer(6, 0, 7);
    }

    /** By 1 there is always a quotient. */
    private void ones() {
        fresh(1, 0, 1, 0, 1, 0, 1, 0, 1, 0, 1, 0, 1, 0, 1, 0);
    }

    private void dueRange(int lowest, int highest, ByNumber act) {
        for (int number = lowest; number <= highest; number++) {
            act.answer(number);
        }
        dueOutOfRange(lowest, highest, act);
    }

    private void dueOutOfRange(int lowest, int highest, ByNumber act) {
        for (int number : new int[] {lowest - 1, highest + 1, Integer.MIN_VALUE, Integer.MAX_VALUE}) {
            dueThrow(WRONG, () -> act.answer(number));
        }
    }

    private void dueNoWay(ByWay act) {
        for (char way : new char[] {'x', 'U', 'N', ' ', 'a', 'g', 'm', 't', 'v', 0, 'u' + 256, 65535}) {
            dueThrow(WRONG, () -> act.answer(way));
        }
    }

    // ---- sums and products

    private void sum() {
        section("Promise 16: sum");
        sentence("Adds two numbers.");
        fresh(125, 2, -5, 0, 0, -3);
        dueNumber(x.sum(0, 1, 7), 7, -375, 2);
        dueNumber(x.sum(1, 0, 7), 7, -375, 2);
        dueNumber(x.sum(1, 2, 7), 7, -5, 0);
        dueNumber(x.sum(0, 0, 0), 0, 250, 2);
        dueNumber(x.sum(0, 1, 1), 1, -250, 2);

        sentence(PRECISION);
        fresh(5, 0, -5, 0, MOST - 5, 0, 95, 0);
        due(x.sum(0, 1, 7), 1);
        due(x.sum(0, 0, 7), 2);
        due(x.sum(0, 3, 7), 3);
        due(x.sum(0, 2, 7), 18);

        sentence(NO_SUCH_SLOT);
        dueSlots((a, b, to) -> x.sum(a, b, to));

        sentence(IF_REFUSED);
        fresh(MOST, 0, 1, 0, -MOST, 0, -1, 0, 0, 1, 0, -9, 0, 9);
        dueThrow(REFUSED, () -> x.sum(0, 1, 7));
        dueThrow(REFUSED, () -> x.sum(2, 3, 7));
        dueThrow(REFUSED, () -> x.sum(0, 4, 7));
        dueThrow(REFUSED, () -> x.sum(4, 0, 7));
        dueThrow(REFUSED, () -> x.sum(5, 6, 7));
        dueThrow(REFUSED, () -> x.sum(6, 5, 7));
        dueNumber(x.sum(0, 3, 7), 7, MOST - 1, 0);
        dueNumber(x.sum(0, 5, 7), 7, MOST, 0);
    }

    private void difference() {
        section("Promise 17: difference");
        sentence("Subtracts a number.");
        fresh(125, 2, 5, 0, 0, -3);
        dueNumber(x.difference(0, 1, 7), 7, -375, 2);
        dueNumber(x.difference(1, 0, 7), 7, 375, 2);
        dueNumber(x.difference(2, 1, 7), 7, -5, 0);
        dueNumber(x.difference(0, 0, 0), 0, 0, 2);
        due(numberOf(1), "5/0");

        sentence(PRECISION);
        fresh(5, 0, -5, 0, MOST - 5, 0, -95, 0);
        due(x.difference(0, 0, 7), 1);
        due(x.difference(0, 1, 7), 2);
        due(x.difference(3, 0, 7), 3);
        due(x.difference(2, 1, 7), 18);

        sentence(NO_SUCH_SLOT);
        dueSlots((a, b, to) -> x.difference(a, b, to));

        sentence(IF_REFUSED);
        fresh(MOST, 0, 1, 0, -MOST, 0, -1, 0, 0, 1, 0, -9, 0, 9);
        dueThrow(REFUSED, () -> x.difference(0, 3, 7));
        dueThrow(REFUSED, () -> x.difference(2, 1, 7));
        dueThrow(REFUSED, () -> x.difference(2, 0, 7));
        dueThrow(REFUSED, () -> x.difference(0, 4, 7));
        dueThrow(REFUSED, () -> x.difference(4, 0, 7));
        dueThrow(REFUSED, () -> x.difference(5, 6, 7));
        dueThrow(REFUSED, () -> x.difference(6, 5, 7));
        dueNumber(x.difference(0, 1, 7), 7, MOST - 1, 0);
        dueNumber(x.difference(5, 0, 7), 7, -MOST, 0);
    }

    private void product() {
        section("Promise 18: product");
        sentence("Multiplies two numbers.");
        fresh(-125, 2, 50, -1, 0, 3);
        dueNumber(x.product(0, 1, 7), 7, -6250, 1);
        dueNumber(x.product(1, 0, 7), 7, -6250, 1);
        dueNumber(x.product(0, 2, 7), 7, 0, 5);
        dueNumber(x.product(0, 0, 0), 0, 15625, 4);

        sentence(PRECISION);
        fresh(3, 0, 4, 0, 0, 0, 999999999, 0);
        due(x.product(0, 0, 7), 1);
        due(x.product(0, 1, 7), 2);
        due(x.product(2, 3, 7), 1);
        due(x.product(3, 3, 7), 18);

        sentence(NO_SUCH_SLOT);
        dueSlots((a, b, to) -> x.product(a, b, to));

        sentence("Throws `UnsupportedOperationException` if it is refused, also if the precisions are together more than 18");
        fresh(999999999, 4, -999999999, 5, 1000000000, 0, 0, 0, MOST, 0, 100000000, 0, 1, 9, 1, -9);
        dueNumber(x.product(0, 1, 3), 3, -999999998000000001L, 9);
        x.put(3, 0, 0);
        dueThrow(REFUSED, () -> x.product(1, 1, 3));
        dueThrow(REFUSED, () -> x.product(0, 2, 3));
        dueThrow(REFUSED, () -> x.product(2, 2, 3));
        dueThrow(REFUSED, () -> x.product(3, 4, 3));
        dueThrow(REFUSED, () -> x.product(4, 3, 3));
        dueThrow(REFUSED, () -> x.product(4, 4, 3));
        dueThrow(REFUSED, () -> x.product(6, 6, 3));
        dueThrow(REFUSED, () -> x.product(7, 7, 3));
        dueNumber(x.product(6, 7, 3), 3, 1, 0);
        fresh(99999999999999999L, 0, 9, 0, 10, 0);
        dueNumber(x.product(0, 1, 7), 7, 899999999999999991L, 0);
        dueThrow(REFUSED, () -> x.product(0, 2, 7));
    }

    private void power() {
        section("Promise 19: power");
        sentence("Multiplies a number by itself.");
        fresh(-12, 1, 0, 2, 2, -3);
        dueNumber(x.power(0, 1, 7), 7, -12, 1);
        dueNumber(x.power(0, 2, 7), 7, 144, 2);
        dueNumber(x.power(0, 3, 7), 7, -1728, 3);
        dueNumber(x.power(1, 4, 7), 7, 0, 8);
        dueNumber(x.power(2, 3, 2), 2, 8, -9);

        sentence("- `n`: how often it is a factor, 0 to 9");
        fresh(-2, 1);
        dueNumber(x.power(0, 0, 7), 7, 1, 0);
        dueNumber(x.power(0, 9, 7), 7, -512, 9);
        dueRange(0, 9, n -> x.power(0, n, 7));

        sentence(PRECISION);
        fresh(99, 0, 0, 0);
        due(x.power(0, 0, 7), 1);
        due(x.power(0, 2, 7), 4);
        due(x.power(0, 9, 7), 18);
        due(x.power(1, 9, 7), 1);

        sentence(NO_SUCH_SLOT);
        dueSlots((a, to) -> x.power(a, 2, to));

        sentence("Throws `IllegalArgumentException` if n is out of range");
        dueOutOfRange(0, 9, n -> x.power(0, n, 7));

        sentence("Throws `UnsupportedOperationException` if it is refused, also if n times the precision is more than 18");
        for (int precision = 1; precision <= 18; precision++) {
            long least = (long) Math.pow(10, precision - 1);
            fresh(least, 0, 0, 5, 0, -5);
            for (int n = 0; n <= 9; n++) {
                int factors = n;
                due(isRefused(() -> x.power(0, factors, 7)), n * precision > 18);
            }
        }
        dueThrow(REFUSED, () -> x.power(1, 2, 7));
        dueThrow(REFUSED, () -> x.power(2, 2, 7));
        dueNumber(x.power(1, 1, 7), 7, 0, 5);
    }

    // ---- signs, and the lesser and the greater one

    private void turn() {
        section("Promise 20: turn");
        sentence("Turns the sign of a number.");
        fresh(-125, 2, MOST, -9, 0, 4);
        dueNumber(x.turn(0, 7), 7, 125, 2);
        dueNumber(x.turn(1, 1), 1, -MOST, -9);
        dueNumber(x.turn(2, 7), 7, 0, 4);
        due(numberOf(0), "-125/2");

        sentence(PRECISION);
        fresh(-125, 2, MOST, -9);
        due(x.turn(0, 7), 3);
        due(x.turn(1, 7), 18);
        due(x.turn(2, 7), 1);

        sentence(NO_SUCH_SLOT);
        dueSlots((a, to) -> x.turn(a, to));
    }

    private void size() {
        section("Promise 21: size");
        sentence("Takes the sign of a number away.");
        fresh(-125, 2, -MOST, -9, 0, 4, 7, 0);
        dueNumber(x.size(0, 7), 7, 125, 2);
        dueNumber(x.size(1, 1), 1, MOST, -9);
        dueNumber(x.size(2, 7), 7, 0, 4);
        dueNumber(x.size(3, 7), 7, 7, 0);
        due(numberOf(0), "-125/2");

        sentence(PRECISION);
        fresh(-125, 2, -MOST, -9);
        due(x.size(0, 7), 3);
        due(x.size(1, 7), 18);
        due(x.size(2, 7), 1);

        sentence(NO_SUCH_SLOT);
        dueSlots((a, to) -> x.size(a, to));
    }

    private void least() {
        section("Promise 22: least");
        sentence("Takes the lesser one of two numbers.");
        fresh(-125, 2, 1, 0, 150, 2, 15, 1);
        dueNumber(x.least(0, 1, 7), 7, -125, 2);
        dueNumber(x.least(1, 0, 7), 7, -125, 2);
        dueNumber(x.least(2, 3, 7), 7, 150, 2);
        dueNumber(x.least(3, 2, 7), 7, 15, 1);

        sentence(PRECISION);
        fresh(-125, 2, MOST, -9);
        due(x.least(0, 1, 7), 3);
        due(x.least(1, 2, 7), 1);
        due(x.least(1, 1, 7), 18);

        sentence(NO_SUCH_SLOT);
        dueSlots((a, b, to) -> x.least(a, b, to));
    }

    private void greatest() {
        section("Promise 23: greatest");
        sentence("Takes the greater one of two numbers.");
        fresh(-125, 2, 1, 0, 150, 2, 15, 1);
        dueNumber(x.greatest(0, 1, 7), 7, 1, 0);
        dueNumber(x.greatest(1, 0, 7), 7, 1, 0);
        dueNumber(x.greatest(2, 3, 7), 7, 150, 2);
        dueNumber(x.greatest(3, 2, 7), 7, 15, 1);

        sentence(PRECISION);
        fresh(-125, 2, MOST, -9);
        due(x.greatest(0, 2, 7), 1);
        due(x.greatest(0, 0, 7), 3);
        due(x.greatest(0, 1, 7), 18);

        sentence(NO_SUCH_SLOT);
        dueSlots((a, b, to) -> x.greatest(a, b, to));
    }

    // ---- scales and quotients

    private void rescale() {
        section("Promise 24: rescale");
        sentence("Gives a number another scale.");
        fresh(-125, 2, 12, -1);
        dueNumber(x.rescale(0, 4, 'd', 7), 7, -12500, 4);
        dueNumber(x.rescale(0, 2, 'd', 7), 7, -125, 2);
        dueNumber(x.rescale(0, 1, 'd', 7), 7, -12, 1);
        dueNumber(x.rescale(1, -2, 'u', 1), 1, 2, -2);

        sentence("- `scale`: the scale, -9 to 9");
        fresh(7, 0);
        for (int scale = -9; scale <= 9; scale++) {
            x.rescale(0, scale, 'u', 7);
            due(x.scale(7), scale);
        }

        sentence(THE_WAYS);
        fresh(-25, 1);
        int[] want = {-3, -2, -2, -3, -3, -2, -2};
        for (int way = 0; way < 7; way++) {
            dueNumber(x.rescale(0, 0, WAYS[way], 7), 7, want[way], 0);
        }
        dueNumber(x.rescale(0, 2, 'n', 7), 7, -250, 2);

        sentence(PRECISION);
        fresh(99, 1, 5, -8, MOST, 9);
        due(x.rescale(0, 0, 'd', 7), 1);
        due(x.rescale(0, 0, 'u', 7), 2);
        due(x.rescale(1, 9, 'n', 7), 18);
        due(x.rescale(2, -9, 'd', 7), 1);

        sentence(NO_SUCH_SLOT);
        dueSlots((a, to) -> x.rescale(a, 0, 'd', to));

        sentence("Throws `IllegalArgumentException` if there is no such way, or the scale is out of range");
        fresh(5, 0);
        dueNoWay(way -> x.rescale(0, 0, way, 7));
        dueRange(-9, 9, scale -> x.rescale(0, scale, 'd', 7));
        dueThrow(WRONG, () -> x.rescale(0, 10, 'x', 7));

        sentence(IF_REFUSED);
        fresh(5, -8, 50, -8, 0, -9, MOST, 0);
        dueThrow(REFUSED, () -> x.rescale(1, 9, 'd', 7));
        dueThrow(REFUSED, () -> x.rescale(2, 9, 'd', 7));
        dueThrow(REFUSED, () -> x.rescale(3, 1, 'd', 7));
        dueNumber(x.rescale(0, 9, 'd', 7), 7, 500000000000000000L, 9);
        dueNumber(x.rescale(2, 8, 'd', 7), 7, 0, 8);
        dueNumber(x.rescale(3, 0, 'd', 7), 7, MOST, 0);

        sentence("Throws `ArithmeticException` if it is no multiple, and the way is 'n'");
        fresh(-125, 2, 1200, 2, 1, 9, MOST, 9);
        dueThrow(UNDEFINED, () -> x.rescale(0, 1, 'n', 7));
        dueThrow(UNDEFINED, () -> x.rescale(1, -1, 'n', 7));
        dueThrow(UNDEFINED, () -> x.rescale(2, 8, 'n', 7));
        dueThrow(UNDEFINED, () -> x.rescale(3, -9, 'n', 7));
        dueNumber(x.rescale(1, 0, 'n', 7), 7, 12, 0);
        dueNumber(x.rescale(4, -9, 'n', 7), 7, 0, -9);
    }

    private void quotient() {
        section("Promise 25: quotient");
        sentence("Divides by a number, to a scale.");
        fresh(10, 0, 3, 0, -7, 0, 2, 0);
        dueNumber(x.quotient(0, 1, 2, 'd', 7), 7, 333, 2);
        dueNumber(x.quotient(1, 0, 2, 'd', 7), 7, 30, 2);
        dueNumber(x.quotient(2, 3, 0, 'd', 7), 7, -3, 0);
        dueNumber(x.quotient(0, 1, -1, 'u', 0), 0, 1, -1);

        sentence("- `scale`: the scale, -9 to 9");
        fresh(7, 0, 3, 0);
        for (int scale = -9; scale <= 9; scale++) {
            x.quotient(0, 1, scale, 'u', 7);
            due(x.scale(7), scale);
        }

        sentence(THE_WAYS);
        fresh(5, 0, -2, 0);
        int[] want = {-3, -2, -2, -3, -3, -2, -2};
        for (int way = 0; way < 7; way++) {
            dueNumber(x.quotient(0, 1, 0, WAYS[way], 7), 7, want[way], 0);
        }
        dueNumber(x.quotient(0, 1, 1, 'n', 7), 7, -25, 1);

        sentence(PRECISION);
        fresh(99, 0, 10, 0, MOST, 0, 1, 0);
        due(x.quotient(0, 1, 0, 'd', 7), 1);
        due(x.quotient(0, 1, 0, 'u', 7), 2);
        due(x.quotient(2, 3, 0, 'n', 7), 18);
        due(x.quotient(4, 3, 9, 'n', 7), 1);

        sentence(NO_SUCH_SLOT);
        dueSlots((a, b, to) -> x.quotient(a, b, 0, 'd', to));

        sentence("Throws `IllegalArgumentException` if there is no such way, or the scale is out of range");
        fresh(5, 0, 2, 0);
        dueNoWay(way -> x.quotient(0, 1, 0, way, 7));
        dueRange(-9, 9, scale -> x.quotient(0, 1, scale, 'd', 7));
        dueThrow(WRONG, () -> x.quotient(0, 1, -10, 'x', 7));

        sentence(IF_REFUSED);
        fresh(12345, 0, 2, 5, 1234, 0, 5, 9, 12, -8, 0, -9, 1, -8);
        dueThrow(REFUSED, () -> x.quotient(0, 1, 9, 'd', 7));
        dueNumber(x.quotient(2, 1, 9, 'd', 7), 7, 61700000000000000L, 9);
        dueThrow(REFUSED, () -> x.quotient(3, 4, 0, 'd', 7));
        dueThrow(REFUSED, () -> x.quotient(5, 1, 4, 'd', 7));
        dueThrow(REFUSED, () -> x.quotient(3, 5, 0, 'd', 7));
        dueNumber(x.quotient(3, 6, 0, 'u', 7), 7, 1, 0);

        sentence("Throws `ArithmeticException` if it is divided by 0, or it is no multiple, and the way is 'n'");
        fresh(5, 0, 0, 3, 2, 0, 0, -9);
        for (char way : WAYS) {
            dueThrow(UNDEFINED, () -> x.quotient(0, 1, 0, way, 7));
            dueThrow(UNDEFINED, () -> x.quotient(1, 1, 0, way, 7));
            dueThrow(UNDEFINED, () -> x.quotient(0, 3, 0, way, 7));
        }
        dueThrow(UNDEFINED, () -> x.quotient(0, 2, 0, 'n', 7));
        dueThrow(UNDEFINED, () -> x.quotient(0, 2, -9, 'n', 7));
        dueNumber(x.quotient(0, 2, 1, 'n', 7), 7, 25, 1);
        dueNumber(x.quotient(1, 2, 0, 'n', 7), 7, 0, 0);
    }

    private void exactQuotient() {
        section("Promise 26: exactQuotient");
        sentence("Divides by a number, exactly.");
        fresh(10, 0, 4, 0, -600, 2, 3, 0);
        dueNumber(x.exactQuotient(0, 1, 7), 7, 25, 1);
        dueNumber(x.exactQuotient(1, 0, 7), 7, 4, 1);
        dueNumber(x.exactQuotient(2, 3, 7), 7, -200, 2);
        dueNumber(x.exactQuotient(5, 3, 3), 3, 0, 0);

        sentence(PRECISION);
        fresh(99999999999999L, 0, 8, 0, 1, 0, 64, 0);
        due(x.exactQuotient(0, 1, 7), 17);
        due(x.exactQuotient(2, 1, 7), 3);
        due(x.exactQuotient(2, 3, 7), 5);
        due(x.exactQuotient(4, 3, 7), 1);

        sentence(NO_SUCH_SLOT);
        dueSlots((a, b, to) -> x.exactQuotient(a, b, to));

        sentence(IF_REFUSED);
        fresh(99999999999999L, 0, 8, 0, 100000000000000L, 0, 0, 0, 12345, 0, 1, 0, 1024, 0, 512, 0);
        dueThrow(REFUSED, () -> x.exactQuotient(2, 1, 7));
        dueThrow(REFUSED, () -> x.exactQuotient(3, 4, 7));
        dueThrow(REFUSED, () -> x.exactQuotient(5, 6, 7));
        dueNumber(x.exactQuotient(5, 7, 3), 3, 1953125, 9);
        dueNumber(x.exactQuotient(0, 1, 3), 3, 12499999999999875L, 3);

        sentence("Throws `ArithmeticException` if it is divided by 0, or the quotient has no last digit");
        fresh(1, 0, 0, 0, 3, 0, 7, 0, 6, 9, 6, -9, 75, 0);
        dueThrow(UNDEFINED, () -> x.exactQuotient(0, 1, 7));
        dueThrow(UNDEFINED, () -> x.exactQuotient(1, 1, 7));
        dueThrow(UNDEFINED, () -> x.exactQuotient(0, 2, 7));
        dueThrow(UNDEFINED, () -> x.exactQuotient(2, 3, 7));
        dueThrow(UNDEFINED, () -> x.exactQuotient(0, 6, 7));
        dueThrow(UNDEFINED, () -> x.exactQuotient(4, 3, 7));
        dueThrow(UNDEFINED, () -> x.exactQuotient(4, 1, 7));
        dueThrow(UNDEFINED, () -> x.exactQuotient(5, 1, 7));
        dueNumber(x.exactQuotient(2, 6, 7), 7, 4, 2);
        fresh(6, 9, 0, -9, 7, -9, 6, -9, 0, 9); // nothing comes of these, so that there is nothing that must be near
        dueThrow(UNDEFINED, () -> x.exactQuotient(0, 1, 7));
        dueThrow(UNDEFINED, () -> x.exactQuotient(0, 2, 7));
        dueThrow(UNDEFINED, () -> x.exactQuotient(3, 4, 7));
    }

    private void wholeQuotient() {
        section("Promise 27: wholeQuotient");
        sentence("Divides by a number, to a whole one.");
        fresh(-75, 1, 2, 0, 7, -2, 3, 0);
        dueNumber(x.wholeQuotient(0, 1, 7), 7, -30, 1);
        dueNumber(x.wholeQuotient(1, 0, 7), 7, 0, -1);
        dueNumber(x.wholeQuotient(2, 3, 2), 2, 233, 0);

        sentence(PRECISION);
        fresh(999999999999L, 0, 1, 0, 7, 0, 99, 0);
        due(x.wholeQuotient(0, 1, 7), 12);
        due(x.wholeQuotient(1, 2, 7), 1);
        due(x.wholeQuotient(3, 2, 7), 2);

        sentence(NO_SUCH_SLOT);
        dueSlots((a, b, to) -> x.wholeQuotient(a, b, to));

        sentence(IF_REFUSED);
        fresh(999999999999L, 0, 1000000000000L, 0, 7, 0, 0, 0, 1000, 0, 5, 5, 3, -5, 3, -4);
        dueNumber(x.wholeQuotient(0, 2, 3), 3, 142857142857L, 0);
        x.put(3, 0, 0);
        dueThrow(REFUSED, () -> x.wholeQuotient(1, 2, 3));
        dueThrow(REFUSED, () -> x.wholeQuotient(3, 4, 3));
        dueThrow(REFUSED, () -> x.wholeQuotient(5, 6, 3));
        dueNumber(x.wholeQuotient(5, 7, 3), 3, 0, 9);

        sentence("Throws `ArithmeticException` if it is divided by 0");
        fresh(5, 0, 0, 0, 0, 9, 999999999999L, 0, 0, -1);
        dueThrow(UNDEFINED, () -> x.wholeQuotient(0, 1, 7));
        dueThrow(UNDEFINED, () -> x.wholeQuotient(1, 1, 7));
        dueThrow(UNDEFINED, () -> x.wholeQuotient(0, 2, 7));
        dueThrow(UNDEFINED, () -> x.wholeQuotient(3, 1, 7));
        dueThrow(UNDEFINED, () -> x.wholeQuotient(2, 4, 7));
        fresh(5, 5, 0, -5, 5, -6, 0, 5, 0, 6);
        dueThrow(UNDEFINED, () -> x.wholeQuotient(0, 1, 7));
        dueThrow(UNDEFINED, () -> x.wholeQuotient(2, 3, 7));
        dueThrow(REFUSED, () -> x.wholeQuotient(2, 4, 7));
    }

    private void remainder() {
        section("Promise 28: remainder");
        sentence("Returns what a whole quotient leaves.");
        fresh(-75, 1, 2, 0, 7, -2, 3, 0);
        dueNumber(x.remainder(0, 1, 7), 7, -15, 1);
        dueNumber(x.remainder(1, 0, 7), 7, 2, 0);
        dueNumber(x.remainder(2, 3, 2), 2, 1, 0);

        sentence(PRECISION);
        fresh(999999, 0, 998, 0, 7, 0, 99, 0);
        due(x.remainder(0, 1, 7), 1);
        due(x.remainder(3, 2, 7), 1);
        due(x.remainder(1, 3, 7), 1);
        due(x.remainder(3, 1, 7), 2);
        due(x.remainder(4, 1, 7), 1);

        sentence(NO_SUCH_SLOT);
        dueSlots((a, b, to) -> x.remainder(a, b, to));

        sentence(IF_REFUSED);
        fresh(999999999999L, 0, 1000000000000L, 0, 7, 0, 0, 0, 1000, 0, 5, 5, 3, -5, 12, 6);
        dueNumber(x.remainder(0, 2, 3), 3, 0, 0);
        dueThrow(REFUSED, () -> x.remainder(1, 2, 3));
        dueThrow(REFUSED, () -> x.remainder(3, 4, 3));
        dueThrow(REFUSED, () -> x.remainder(7, 6, 3));
        dueNumber(x.remainder(5, 6, 3), 3, 5, 5);

        sentence("Throws `ArithmeticException` if it is divided by 0");
        fresh(5, 0, 0, 0, 0, 9, 999999999999L, 0, 0, -1);
        dueThrow(UNDEFINED, () -> x.remainder(0, 1, 7));
        dueThrow(UNDEFINED, () -> x.remainder(1, 1, 7));
        dueThrow(UNDEFINED, () -> x.remainder(0, 2, 7));
        dueThrow(UNDEFINED, () -> x.remainder(3, 1, 7));
        dueThrow(UNDEFINED, () -> x.remainder(2, 4, 7));
        fresh(5, 5, 0, -5, 5, -6, 0, 5, 0, 6);
        dueThrow(UNDEFINED, () -> x.remainder(0, 1, 7));
        dueThrow(UNDEFINED, () -> x.remainder(2, 3, 7));
        dueThrow(REFUSED, () -> x.remainder(2, 4, 7));
    }

    // ---- one number

    private void round() {
        section("Promise 29: round");
        sentence("Rounds a number to so many digits.");
        fresh(123456789, 4, -9999, 1);
        dueNumber(x.round(0, 5, 'd', 7), 7, 12345, 0);
        dueNumber(x.round(0, 9, 'd', 7), 7, 123456789, 4);
        dueNumber(x.round(1, 3, 'u', 7), 7, -100, -1);
        dueNumber(x.round(1, 4, 'u', 1), 1, -9999, 1);

        sentence("- `digits`: 0 to 18");
        fresh(MOST, 9);
        dueNumber(x.round(0, 0, 'd', 7), 7, MOST, 9);
        for (int digits = 1; digits <= 18; digits++) {
            due(x.round(0, digits, 'd', 7), digits);
            due(x.scale(7), digits - 9);
        }

        sentence(THE_WAYS);
        fresh(-25, 1);
        int[] want = {-3, -2, -2, -3, -3, -2, -2};
        for (int way = 0; way < 7; way++) {
            dueNumber(x.round(0, 1, WAYS[way], 7), 7, want[way], 0);
        }
        dueNumber(x.round(0, 2, 'n', 7), 7, -25, 1);

        sentence(PRECISION);
        fresh(99, 1, MOST, 9);
        due(x.round(0, 1, 'u', 7), 1);
        due(x.round(1, 17, 'd', 7), 17);
        due(x.round(1, 17, 'u', 7), 17);
        due(x.round(1, 0, 'u', 7), 18);
        due(x.round(2, 1, 'u', 7), 1);

        sentence(NO_SUCH_SLOT);
        dueSlots((a, to) -> x.round(a, 1, 'd', to));

        sentence("Throws `IllegalArgumentException` if there is no such way, or the number is out of range");
        fresh(25, 1);
        dueNoWay(way -> x.round(0, 1, way, 7));
        dueNoWay(way -> x.round(0, 0, way, 7));
        dueRange(0, 18, digits -> x.round(0, digits, 'd', 7));
        dueThrow(WRONG, () -> x.round(0, 19, 'x', 7));

        sentence(IF_REFUSED);
        fresh(12, -9, 10, -9, 95, -8, 94, -8);
        dueThrow(REFUSED, () -> x.round(0, 1, 'd', 7));
        dueThrow(REFUSED, () -> x.round(1, 1, 'd', 7));
        dueThrow(REFUSED, () -> x.round(2, 1, 'h', 7));
        dueNumber(x.round(2, 1, 'd', 7), 7, 9, -9);
        dueNumber(x.round(3, 1, 'h', 7), 7, 9, -9);
        dueNumber(x.round(0, 2, 'd', 7), 7, 12, -9);

        sentence("Throws `ArithmeticException` if digits that are not 0 would be lost, and the way is 'n'");
        fresh(-1230, 2, MOST, 9, 100000000000000001L, 0, 100000000000000000L, 0);
        dueThrow(UNDEFINED, () -> x.round(0, 2, 'n', 7));
        dueNumber(x.round(0, 3, 'n', 7), 7, -123, 1);
        dueThrow(UNDEFINED, () -> x.round(1, 17, 'n', 7));
        dueThrow(UNDEFINED, () -> x.round(1, 1, 'n', 7));
        dueThrow(UNDEFINED, () -> x.round(2, 17, 'n', 7));
        dueThrow(UNDEFINED, () -> x.round(2, 9, 'n', 7));
        dueNumber(x.round(3, 9, 'n', 7), 7, 100000000, -9);
        dueNumber(x.round(1, 0, 'n', 7), 7, MOST, 9);
    }

    private void unit() {
        section("Promise 30: unit");
        sentence("Takes the unit of the scale of a number.");
        fresh(-125, 2, 0, -9, MOST, 9);
        dueNumber(x.unit(0, 7), 7, 1, 2);
        dueNumber(x.unit(1, 1), 1, 1, -9);
        dueNumber(x.unit(2, 7), 7, 1, 9);
        dueNumber(x.unit(3, 7), 7, 1, 0);

        sentence(PRECISION);
        fresh(-125, 2, 0, -9);
        due(x.unit(0, 7), 1);
        due(x.unit(1, 7), 1);

        sentence(NO_SUCH_SLOT);
        dueSlots((a, to) -> x.unit(a, to));
    }

    private void bare() {
        section("Promise 31: bare");
        sentence("Takes the zeros at the end of a number away.");
        fresh(-1200, 3, 100, 0, 0, -5, 0, 9, 101, 1);
        dueNumber(x.bare(0, 7), 7, -12, 1);
        dueNumber(x.bare(1, 7), 7, 1, -2);
        dueNumber(x.bare(7, 7), 7, 1, -2);
        dueNumber(x.bare(2, 2), 2, 0, 0);
        dueNumber(x.bare(3, 7), 7, 0, 0);
        dueNumber(x.bare(4, 7), 7, 101, 1);

        sentence(PRECISION);
        fresh(MOST - 9, 0, MOST, 9, 100000000000000000L, 9, 0, -9);
        due(x.bare(0, 7), 17);
        due(x.bare(1, 7), 18);
        due(x.bare(2, 7), 1);
        due(x.bare(3, 7), 1);

        sentence(NO_SUCH_SLOT);
        dueSlots((a, to) -> x.bare(a, to));

        sentence(IF_REFUSED);
        fresh(10, -9, 100, -8, 10, -8, 100000000000000000L, 7, 100000000000000000L, 8, 0, -9);
        dueThrow(REFUSED, () -> x.bare(0, 7));
        dueThrow(REFUSED, () -> x.bare(1, 7));
        dueNumber(x.bare(2, 7), 7, 1, -9);
        dueThrow(REFUSED, () -> x.bare(3, 7));
        dueNumber(x.bare(4, 7), 7, 1, -9);
        dueNumber(x.bare(5, 7), 7, 0, 0);
    }

    private void move() {
        section("Promise 32: move");
        sentence("Moves the point of a number to the left.");
        fresh(-125, 2, 7, -1);
        dueNumber(x.move(0, 3, 7), 7, -125, 5);
        dueNumber(x.move(0, -1, 7), 7, -125, 1);
        dueNumber(x.move(0, -5, 7), 7, -125000, 0);
        dueNumber(x.move(1, 1, 1), 1, 7, 0);

        sentence("- `n`: by how many places, -9 to 9, but 0");
        fresh(-125, 0, MOST, 9);
        dueNumber(x.move(0, 9, 7), 7, -125, 9);
        dueNumber(x.move(0, -9, 7), 7, -125000000000L, 0);
        dueNumber(x.move(1, -9, 7), 7, MOST, 0);
        for (int n = -9; n <= 9; n++) {
            if (n != 0) {
                x.move(0, n, 7);
                due(x.scale(7), Math.max(0, n));
            }
        }
        dueThrow(WRONG, () -> x.move(0, 0, 7));

        sentence(PRECISION);
        fresh(-125, 2, 0, -9, 15, -9);
        due(x.move(0, 1, 7), 3);
        due(x.move(0, -4, 7), 5);
        due(x.move(1, 1, 7), 1);
        due(x.move(2, -7, 7), 18);

        sentence(NO_SUCH_SLOT);
        dueSlots((a, to) -> x.move(a, 1, to));

        sentence("Throws `IllegalArgumentException` if n is out of range");
        dueOutOfRange(-9, 9, n -> x.move(0, n, 7));
        dueThrow(WRONG, () -> x.move(0, 0, 7));

        sentence(IF_REFUSED);
        fresh(-125, 2, 0, -9, 15, -9, MOST, 0, MOST, -1);
        dueThrow(REFUSED, () -> x.move(0, 8, 7));
        dueNumber(x.move(0, 7, 7), 7, -125, 9);
        dueThrow(REFUSED, () -> x.move(1, -9, 7));
        dueNumber(x.move(1, -8, 7), 7, 0, 0);
        dueThrow(REFUSED, () -> x.move(2, -8, 7));
        dueNumber(x.move(2, -7, 7), 7, 150000000000000000L, 0);
        dueThrow(REFUSED, () -> x.move(3, -1, 7));
        dueNumber(x.move(4, 1, 7), 7, MOST, 0);
    }

    private void times() {
        section("Promise 33: times");
        sentence("Multiplies a number by a power of ten.");
        fresh(-125, 2, 0, 3);
        dueNumber(x.times(0, 3, 7), 7, -125, -1);
        dueNumber(x.times(0, -3, 7), 7, -125, 5);
        dueNumber(x.times(0, 0, 7), 7, -125, 2);
        dueNumber(x.times(1, 3, 1), 1, 0, 0);

        sentence("- `exponent`: the exponent, -9 to 9");
        fresh(7, 0);
        for (int exponent = -9; exponent <= 9; exponent++) {
            dueNumber(x.times(0, exponent, 7), 7, 7, -exponent);
        }

        sentence(PRECISION);
        fresh(-125, 2, MOST, 0);
        due(x.times(0, 9, 7), 3);
        due(x.times(1, -9, 7), 18);
        due(x.times(2, -9, 7), 1);

        sentence(NO_SUCH_SLOT);
        dueSlots((a, to) -> x.times(a, 1, to));

        sentence("Throws `IllegalArgumentException` if the exponent is out of range");
        dueRange(-9, 9, exponent -> x.times(0, exponent, 7));

        sentence(IF_REFUSED);
        fresh(-125, 2, MOST, -4, 0, 9, 0, -9);
        dueThrow(REFUSED, () -> x.times(0, -8, 7));
        dueNumber(x.times(0, -7, 7), 7, -125, 9);
        dueThrow(REFUSED, () -> x.times(1, 6, 7));
        dueNumber(x.times(1, 5, 7), 7, MOST, -9);
        dueThrow(REFUSED, () -> x.times(2, -1, 7));
        dueThrow(REFUSED, () -> x.times(3, 1, 7));
    }
}
