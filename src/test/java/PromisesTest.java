import java.math.BigInteger;
import java.util.NoSuchElementException;

/** The promises 1 to 15 and 34 to 38, sentence by sentence: texts, numbers, and what is told of all. */
public final class PromisesTest extends Sentences {
    private static final Class<?> FULL = IllegalStateException.class;
    private static final Class<?> NONE = NoSuchElementException.class;
    private static final String LONGEST = "-999999999999999999000000000";

    public static void main(String[] args) {
        PromisesTest test = new PromisesTest();
        test.newObject();
        test.type();
        test.erase();
        test.signAt();
        test.tell();
        test.read();
        test.put();
        test.copy();
        test.scale();
        test.precision();
        test.sign();
        test.compare();
        test.isEqual();
        test.whole();
        test.digits();
        test.undo();
        test.zeroShare();
        test.meanScale();
        test.checksum();
        test.isSound();
        test.end("Promise 1: A new object", "Promise 2: type", "Promise 3: erase", "Promise 4: signAt", "Promise 5: tell",
                "Promise 6: read", "Promise 7: put", "Promise 8: copy", "Promise 9: scale", "Promise 10: precision",
                "Promise 11: sign", "Promise 12: compare", "Promise 13: isEqual", "Promise 14: whole", "Promise 15: digits",
                "Promise 34: undo", "Promise 35: zeroShare", "Promise 36: meanScale", "Promise 37: checksum",
                "Promise 38: isSound");
    }

    // ---- the text

    private void newObject() {
        section("Promise 1: A new object");
        sentence("Creates eight slots that hold 0, with an empty text.");
        for (int slot = 0; slot < 8; slot++) {
            due(x.sign(slot), 0);
            due(x.scale(slot), 0);
            due(x.precision(slot), 1);
        }
        dueThrow(NO_SLOT, () -> x.scale(8));
        dueThrow(NO_SLOT, () -> x.signAt(0));
        due(x.erase(), 0);
        dueThrow(NONE, () -> x.undo());
        Eightways other = new Eightways();
        other.put(0, 5, 0);
        other.type('5');
        due(x.sign(0), 0);
        due(x.erase(), 0);
    }

    private void type() {
        section("Promise 2: type");
        sentence("Types a sign behind the text.");
        x.type('a');
        x.type(' ');
        x.type('~');
        due(Check.textOf(x), "a ~");
        x.tell(0);
        x.type('.');
        due(Check.textOf(x), "0.");

        sentence("Returns how many signs it has then.");
        for (int count = 1; count <= 24; count++) {
            due(x.type('a'), count);
        }
        x.tell(0);
        due(x.type('a'), 2);

        sentence("Throws `IllegalArgumentException` if its code is not 32 to 126");
        due(x.type((char) 32), 1);
        due(x.type((char) 126), 2);
        for (char sign : new char[] {0, 31, 127, 128, 255, 256, 256 + 'a', 32768, 65535}) {
            dueThrow(WRONG, () -> x.type(sign));
        }

        sentence("Throws `IllegalStateException` if it has 24 signs, or more");
        type("twenty-four signs are in");
        dueThrow(FULL, () -> x.type('!'));
        due(x.erase(), 24);
        x.put(0, 99999999999999L, -9);
        due(x.tell(0), 23);
        due(x.type('!'), 24);
        dueThrow(FULL, () -> x.type('!'));
        for (long digits : new long[] {-99999999999999999L, -MOST}) {
            x.put(0, digits, -9);
            due(x.tell(0) > 24, true);
            dueThrow(FULL, () -> x.type('!'));
        }
        x.put(0, 999999999999999L, -9);
        due(x.tell(0), 24);
        dueThrow(FULL, () -> x.type('!'));
    }

    private void erase() {
        section("Promise 3: erase");
        sentence("Takes the text away.");
        type("12.5");
        x.erase();
        dueThrow(NO_SLOT, () -> x.signAt(0));
        due(x.type('1'), 1);
        due(Check.textOf(x), "1");

        sentence("Returns how many signs it had.");
        due(x.erase(), 0);
        type("12.5");
        due(x.erase(), 4);
        due(x.erase(), 0);
        type("twenty-four signs are in");
        due(x.erase(), 24);
        x.put(0, -MOST, -9);
        x.tell(0);
        due(x.erase(), 28);
    }

    private void signAt() {
        section("Promise 4: signAt");
        sentence("Returns a sign of the text.");
        type("-1.5");
        due(x.signAt(1), '1');
        due(x.signAt(2), '.');

        sentence("- `place`: its place, from 0");
        type("-1.5");
        due(x.signAt(0), '-');
        due(x.signAt(3), '5');

        sentence("Returns the sign.");
        for (char sign = 32; sign <= 126; sign++) {
            x.erase();
            x.type(sign);
            due(x.signAt(0), sign);
        }

        sentence("Throws `IndexOutOfBoundsException` if there is no such place");
        dueThrow(NO_SLOT, () -> x.signAt(0));
        dueNoPlaceFrom(0);
        type("-1.5");
        dueNoPlaceFrom(4);
        x.erase();
        dueNoPlaceFrom(0);
        x.put(0, -MOST, -9);
        x.tell(0);
        due(x.signAt(27), '0');
        dueNoPlaceFrom(28);
        x.tell(1);
        due(x.signAt(0), '0');
        dueNoPlaceFrom(1);
    }

    private void dueNoPlaceFrom(int length) {
        for (int place : new int[] {length, length + 1, 28, -1, Integer.MAX_VALUE, Integer.MIN_VALUE}) {
            dueThrow(NO_SLOT, () -> x.signAt(place));
        }
    }

    private void tell() {
        section("Promise 5: tell");
        sentence("Tells a number as the text, in place of what it was");
        fresh(-125, 2, 7, -1, 0, 3);
        type("what it was");
        x.tell(0);
        due(Check.textOf(x), "-1.25");
        x.tell(1);
        due(Check.textOf(x), "70");
        x.tell(2);
        due(Check.textOf(x), "0.000");
        x.tell(7);
        due(Check.textOf(x), "0");

        sentence("it can have more signs than are typed.");
        fresh(-MOST, -9, 1000000000000000L, -9);
        x.tell(0);
        due(Check.textOf(x), LONGEST);
        x.tell(1);
        due(Check.textOf(x), "1000000000000000000000000");

        sentence("Returns how many signs it has.");
        fresh(-MOST, -9, 5, 9, -5, 0);
        due(x.tell(0), 28);
        due(x.tell(1), 11);
        due(x.tell(2), 2);
        due(x.tell(3), 1);

        sentence("Throws `IndexOutOfBoundsException` if there is no such slot");
        type("text");
        for (int slot : NO_SLOTS) {
            dueThrow(NO_SLOT, () -> x.tell(slot));
        }
        due(x.tell(7), 1);
    }

    private void read() {
        section("Promise 6: read");
        sentence("Reads the text as a number, which a slot becomes");
        type("-12.50e+1");
        x.read(7);
        due(numberOf(7), "-1250/1");
        type("0");
        x.read(7);
        due(numberOf(7), "0/0");

        sentence("the text is taken away.");
        type("5");
        x.read(0);
        due(x.erase(), 0);
        x.tell(0);
        x.read(1);
        dueThrow(NO_SLOT, () -> x.signAt(0));

        sentence("Returns its precision.");
        String[] texts = {"0", "-0.00", "007", "10", "-123456789.012345678", "1E9", "0.000000001"};
        int[] precisions = {1, 1, 1, 2, 18, 1, 1};
        for (int text = 0; text < texts.length; text++) {
            type(texts[text]);
            due(x.read(0), precisions[text]);
        }

        sentence("Throws `IndexOutOfBoundsException` if there is no such slot");
        type("5");
        for (int slot : NO_SLOTS) {
            dueThrow(NO_SLOT, () -> x.read(slot));
        }
        due(Check.textOf(x), "5");
        due(x.read(7), 1);

        sentence("Throws `UnsupportedOperationException` if it is refused");
        for (String text : new String[] {"1E10", "1E-10", "1234567890123456789", "1e00001", "x1234567890123456789"}) {
            type(text);
            dueThrow(REFUSED, () -> x.read(0));
            due(Check.textOf(x), text);
        }

        sentence("Throws `NumberFormatException` if it is no number");
        for (String text : new String[] {"", ".", "-", "1e", "1.2.3", " 1", "text", "1e+", "--1", "0x1F", "e1", "+.e1"}) {
            type(text);
            dueThrow(NO_NUMBER, () -> x.read(0));
            due(Check.textOf(x), text);
        }
    }

    // ---- numbers

    private void put() {
        section("Promise 7: put");
        sentence("Lets a slot become a number.");
        x.put(7, -25, 1);
        x.put(0, 25, -1);
        due(numberOf(7), "-25/1");
        due(numberOf(0), "25/-1");
        x.put(7, 0, 9);
        due(numberOf(7), "0/9");

        sentence("Returns its precision.");
        due(x.put(0, 0, 9), 1);
        due(x.put(0, -9, -9), 1);
        due(x.put(0, 10, 0), 2);
        due(x.put(0, -MOST, 0), 18);
        due(x.put(0, 100000000000000000L, 0), 18);
        due(x.put(0, 99999999999999999L, 0), 17);

        sentence("Throws `IndexOutOfBoundsException` if there is no such slot");
        for (int slot : NO_SLOTS) {
            dueThrow(NO_SLOT, () -> x.put(slot, 1, 0));
        }

        sentence("Throws `IllegalArgumentException` if it would not be near");
        fresh(7, 7);
        for (long digits : new long[] {MOST + 1, -MOST - 1, Long.MAX_VALUE, Long.MIN_VALUE}) {
            dueThrow(WRONG, () -> x.put(0, digits, 0));
        }
        for (int scale : new int[] {10, -10, Integer.MAX_VALUE, Integer.MIN_VALUE}) {
            dueThrow(WRONG, () -> x.put(0, 1, scale));
            dueThrow(WRONG, () -> x.put(0, 0, scale));
        }
        dueNumber(x.put(0, MOST, 9), 0, MOST, 9);
        dueNumber(x.put(0, -MOST, -9), 0, -MOST, -9);
    }

    private void copy() {
        section("Promise 8: copy");
        sentence("Lets a slot become what another one holds.");
        fresh(-125, 2, 7, 0);
        x.copy(0, 1);
        due(numberOf(1), "-125/2");
        due(numberOf(0), "-125/2");
        x.put(0, 5, 0);
        due(numberOf(1), "-125/2");
        x.copy(1, 1);
        due(numberOf(1), "-125/2");

        sentence("Returns its precision.");
        fresh(-125, 2, MOST, 0, 0, 5);
        due(x.copy(0, 7), 3);
        due(x.copy(1, 7), 18);
        due(x.copy(2, 7), 1);

        sentence("Throws `IndexOutOfBoundsException` if there is no such slot, for either");
        for (int slot : NO_SLOTS) {
            dueThrow(NO_SLOT, () -> x.copy(slot, 0));
            dueThrow(NO_SLOT, () -> x.copy(0, slot));
            dueThrow(NO_SLOT, () -> x.copy(slot, slot));
        }
        due(x.copy(7, 0), 1);
    }

    private void scale() {
        section("Promise 9: scale");
        sentence("Returns the scale of a number.");
        fresh(-100, 3, 0, -4);
        due(x.scale(0), 3);
        due(x.scale(1), -4);

        sentence("Returns the scale.");
        for (int scale = -9; scale <= 9; scale++) {
            x.put(7, 0, scale);
            due(x.scale(7), scale);
        }

        sentence("Throws `IndexOutOfBoundsException` if there is no such slot");
        for (int slot : NO_SLOTS) {
            dueThrow(NO_SLOT, () -> x.scale(slot));
        }
    }

    private void precision() {
        section("Promise 10: precision");
        sentence("Returns the precision of a number.");
        fresh(-100, -9, 100, 9, 1, 9);
        due(x.precision(0), 3);
        due(x.precision(1), 3);
        due(x.precision(2), 1);

        sentence("Returns how many digits.");
        fresh(0, 9, -9, 0, 10, 0, -99, 0, MOST, 0, -100000000000000000L, 0, 99999999999999999L, 0);
        int[] counts = {1, 1, 2, 2, 18, 18, 17, 1};
        for (int slot = 0; slot < 8; slot++) {
            due(x.precision(slot), counts[slot]);
        }

        sentence("Throws `IndexOutOfBoundsException` if there is no such slot");
        for (int slot : NO_SLOTS) {
            dueThrow(NO_SLOT, () -> x.precision(slot));
        }
    }

    private void sign() {
        section("Promise 11: sign");
        sentence("Returns the sign of a number.");
        fresh(-1, 9, 1, 9, -MOST, -9, MOST, -9);
        due(x.sign(0), -1);
        due(x.sign(1), 1);

        sentence("Returns -1, 0 or 1.");
        fresh(-MOST, -9, MOST, -9, 0, 9, 0, -9);
        due(x.sign(0), -1);
        due(x.sign(1), 1);
        due(x.sign(2), 0);
        due(x.sign(3), 0);

        sentence("Throws `IndexOutOfBoundsException` if there is no such slot");
        for (int slot : NO_SLOTS) {
            dueThrow(NO_SLOT, () -> x.sign(slot));
        }
    }

    private void dueCompared(long a, int scaleOfA, long b, int scaleOfB, int want) {
        fresh(a, scaleOfA, b, scaleOfB);
        due(x.compare(0, 1), want);
        due(x.compare(1, 0), -want);
    }

    private void compare() {
        section("Promise 12: compare");
        sentence("Compares two numbers by their values.");
        dueCompared(0, 9, 0, -9, 0);
        dueCompared(150, 2, 15, 1, 0);
        dueCompared(-150, 2, -15, 1, 0);
        dueCompared(151, 2, 15, 1, 1);
        dueCompared(-151, 2, -15, 1, -1);
        dueCompared(MOST, 9, 1000000000, 0, -1);
        dueCompared(MOST, 9, MOST, 8, -1);
        dueCompared(-MOST, -9, -MOST, -8, -1);
        dueCompared(100000000000000000L, 8, 1, -9, 0);
        dueCompared(100000000000000001L, 8, 1, -9, 1);
        dueCompared(99, 0, 1, -2, -1);
        dueCompared(1L << 46, -9, 5, 9, 1); // times 10 to the power of 18 this would go round to 0
        dueCompared(0, 9, 1, 9, -1);
        dueCompared(0, -9, -1, 9, 1);

        sentence("Returns -1, 0 or 1.");
        dueCompared(-MOST, -9, 1, 9, -1);
        dueCompared(MOST, -9, -MOST, -9, 1);
        dueCompared(1, -9, 1, 9, 1);
        dueCompared(-1, 0, -2, 0, 1);
        dueCompared(5, 0, 9, 0, -1);
        due(x.compare(0, 0), 0);

        sentence("Throws `IndexOutOfBoundsException` if there is no such slot, for either");
        for (int slot : NO_SLOTS) {
            dueThrow(NO_SLOT, () -> x.compare(slot, 0));
            dueThrow(NO_SLOT, () -> x.compare(0, slot));
        }
    }

    private void isEqual() {
        section("Promise 13: isEqual");
        sentence("Tells whether two numbers are equal.");
        fresh(150, 2, 15, 1, 150, 2, 150, 1, -150, 2);
        due(x.isEqual(0, 1), false);
        due(x.isEqual(0, 2), true);
        due(x.isEqual(0, 3), false);
        due(x.isEqual(0, 4), false);

        sentence("Returns whether they are.");
        fresh(MOST, 9, MOST, 9, MOST, -9, 0, 9, 0, -9);
        due(x.isEqual(0, 1), true);
        due(x.isEqual(0, 2), false);
        due(x.isEqual(3, 4), false);
        due(x.isEqual(3, 3), true);
        due(x.isEqual(5, 6), true);

        sentence("Throws `IndexOutOfBoundsException` if there is no such slot, for either");
        for (int slot : NO_SLOTS) {
            dueThrow(NO_SLOT, () -> x.isEqual(slot, 0));
            dueThrow(NO_SLOT, () -> x.isEqual(0, slot));
        }
    }

    private void dueWhole(long digits, int scale, long want) {
        fresh(digits, scale);
        due(x.whole(0), want);
    }

    private void dueNoWhole(long digits, int scale) {
        fresh(digits, scale);
        dueThrow(UNDEFINED, () -> x.whole(0));
    }

    private void whole() {
        section("Promise 14: whole");
        sentence("Returns a number as a long.");
        dueWhole(-12, 0, -12);
        dueWhole(1200, 2, 12);
        dueWhole(-1200, 2, -12);
        dueWhole(7, -9, 7000000000L);
        dueWhole(0, 9, 0);
        dueWhole(0, -9, 0);

        sentence("Returns the number.");
        dueWhole(MOST, 0, MOST);
        dueWhole(-MOST, 0, -MOST);
        dueWhole(1000000000, 9, 1);
        dueWhole(-999999999000000000L, 9, -999999999);
        dueWhole(922337203685477580L, -1, 9223372036854775800L);
        dueWhole(-922337203685477580L, -1, -9223372036854775800L);

        sentence("Throws `IndexOutOfBoundsException` if there is no such slot");
        for (int slot : NO_SLOTS) {
            dueThrow(NO_SLOT, () -> x.whole(slot));
        }

        sentence("Throws `ArithmeticException` if it is no whole one, or no long");
        dueNoWhole(1201, 2);
        dueNoWhole(1210, 2);
        dueNoWhole(-5, 1);
        dueNoWhole(1, 9);
        dueNoWhole(-MOST, 9);
        dueNoWhole(999999999, 9);
        dueNoWhole(922337203685477581L, -1);
        dueNoWhole(-922337203685477581L, -1);
        dueNoWhole(MOST, -1);
        dueNoWhole(MOST, -9);
        for (int zeros = 1; zeros <= 9; zeros++) {
            long most = Long.MAX_VALUE / BigInteger.TEN.pow(zeros).longValue();
            long shift = BigInteger.TEN.pow(zeros).longValue();
            dueWhole(most, -zeros, most * shift);
            dueWhole(-most, -zeros, -most * shift);
            dueNoWhole(most + 1, -zeros);
            dueNoWhole(-most - 1, -zeros);
        }
    }

    private void digits() {
        section("Promise 15: digits");
        sentence("Tells the digits of a number, with their sign, as the text, in place of what it was.");
        fresh(-125, 5, 7, -9, 0, 9, -MOST, -9);
        type("what it was");
        String[] want = {"-125", "7", "0", "-999999999999999999", "0"};
        for (int slot = 0; slot < want.length; slot++) {
            x.digits(slot);
            due(Check.textOf(x), want[slot]);
        }
        due(x.scale(0), 5);

        sentence("Returns how many signs it has.");
        fresh(-125, 5, 7, -9, 0, 9, -MOST, -9);
        int[] lengths = {4, 1, 1, 19, 1};
        for (int slot = 0; slot < lengths.length; slot++) {
            due(x.digits(slot), lengths[slot]);
        }

        sentence("Throws `IndexOutOfBoundsException` if there is no such slot");
        type("text");
        for (int slot : NO_SLOTS) {
            dueThrow(NO_SLOT, () -> x.digits(slot));
        }
    }

    // ---- all

    private void undo() {
        section("Promise 34: undo");
        sentence("Lets the slot of the latest call that is kept hold what it held");
        fresh(-125, 2, MOST, -9);
        type("text");
        x.put(0, 5, 0);
        x.sum(0, 0, 2);
        x.undo();
        due(x.scale(2), 0);
        due(x.sign(2), 0);
        due(Check.textOf(x), "text");
        x.undo();
        due(numberOf(0), "-125/2");
        due(numberOf(1), MOST + "/-9");

        sentence("that call is kept no longer.");
        x.put(0, 1, 0);
        x.put(0, 2, 0);
        long sum = x.checksum();
        x.undo();
        x.put(0, 2, 0);
        due(x.checksum(), sum);
        x.undo();
        due(x.whole(0), 1L);
        x.undo();
        due(x.whole(0), 0L);

        sentence("Returns the slot.");
        for (int slot = 0; slot < 8; slot++) {
            x.put(slot, 5, 0);
        }
        for (int slot = 7; slot >= 0; slot--) {
            due(x.undo(), slot);
        }

        sentence("Throws `NoSuchElementException` if none is kept");
        dueThrow(NONE, () -> x.undo());
        x.put(3, 5, 0);
        x.undo();
        dueThrow(NONE, () -> x.undo());
        for (int call = 1; call <= 9; call++) {
            x.put(3, call, 0);
        }
        for (int call = 9; call >= 2; call--) {
            due(x.undo(), 3);
        }
        dueThrow(NONE, () -> x.undo());
        due(x.whole(3), 1L);
    }

    private void zeroShare() {
        section("Promise 35: zeroShare");
        sentence("Returns the share of slots that hold 0, of any scale.");
        due(x.zeroShare(), 1.0f);
        fresh(0, 9, 0, -9, 5, 0, -5, 9);
        due(x.zeroShare(), 0.75f);
        fresh(1, 9, -1, -9);
        due(x.zeroShare(), 0.75f);

        sentence("Returns how many divided by 8, both converted to float.");
        for (int slot = 0; slot < 8; slot++) {
            due(x.zeroShare(), (float) (8 - slot) / (float) 8);
            x.put(slot, 1, 9);
        }
        due(x.zeroShare(), 0.0f);
        x.put(7, 0, 8);
        due(x.zeroShare(), 0.125f);
    }

    private void meanScale() {
        section("Promise 36: meanScale");
        sentence("Returns the mean scale.");
        due(x.meanScale(), 0.0);
        fresh(5, 3, 0, 4, -5, -9);
        due(x.meanScale(), -0.25);

        sentence("Returns the sum of the scales divided by 8, both converted to double.");
        for (int slot = 0; slot < 8; slot++) {
            x.put(slot, 1, 9);
            due(x.meanScale(), (double) (9 * (slot + 1)) / (double) 8);
        }
        for (int slot = 0; slot < 8; slot++) {
            x.put(slot, 0, -9);
        }
        due(x.meanScale(), -9.0);
        x.put(7, 0, -8);
        due(x.meanScale(), -8.875);
    }

    /** The sum as it would be if a long had no end, with the slots as they are told. */
    private static BigInteger endlessSum(int[] scales, String[] told, int kept, String text) {
        BigInteger sum = BigInteger.valueOf(7);
        for (int slot = 0; slot < 8; slot++) {
            sum = added(sum, scales[slot]);
            for (char sign : told[slot].toCharArray()) {
                sum = added(sum, sign);
            }
        }
        sum = added(sum, kept);
        for (char sign : text.toCharArray()) {
            sum = added(sum, sign);
        }
        return sum;
    }

    private static BigInteger added(BigInteger sum, int more) {
        return sum.multiply(BigInteger.valueOf(31)).add(BigInteger.valueOf(more));
    }

    private void checksum() {
        section("Promise 37: checksum");
        sentence("Returns a sum over all, a long that goes round.");
        BigInteger sum = endlessSum(new int[8], new String[] {"0", "0", "0", "0", "0", "0", "0", "0"}, 0, "");
        due(sum.bitLength() > 63, true);
        due(x.checksum(), sum.longValue());
        due(x.checksum(), sum.longValue());

        int[] scales = {1, -1, 9, 0, -9, 3, 0, -2};
        long[] digits = {-15, 2, 5, MOST, -MOST, 0, -7, 0};
        String[] told = {"-1.5", "20", "0.000000005", "999999999999999999", LONGEST, "0.000", "-7", "0"};
        sentence("Returns 7 at first, then 31 times itself plus each of: for each slot the scale, and the codes of the signs "
                + "of its number, as it is told");
        for (int slot = 0; slot < 8; slot++) {
            x.put(slot, digits[slot], scales[slot]);
        }
        due(x.checksum(), endlessSum(scales, told, 8, "").longValue());

        sentence("how many calls are kept");
        for (int call = 1; call <= 20; call++) {
            x.put(0, 0, 0);
            due(x.checksum(), sum.longValue() + Math.min(call, 8));
        }
        for (int kept = 7; kept >= 0; kept--) {
            x.undo();
            due(x.checksum(), sum.longValue() + kept);
        }

        sentence("the codes of the signs of the text.");
        for (int slot = 0; slot < 8; slot++) {
            x.put(slot, digits[slot], scales[slot]);
        }
        for (String text : new String[] {" ", "~", "a~", "twenty-four signs are in"}) {
            type(text);
            due(x.checksum(), endlessSum(scales, told, 8, text).longValue());
        }
        x.tell(4);
        due(x.checksum(), endlessSum(scales, told, 8, LONGEST).longValue());
        x.erase();
        due(x.checksum(), endlessSum(scales, told, 8, "").longValue());
    }

    private void isSound() {
        long[][] numbers = {{0, 0}, {0, -9}, {0, 9}, {MOST, 9}, {-MOST, -9}, {1, -9}, {-5, 1}, {-15, 1}, {25, 1}, {-2549, 3},
            {150, 2}, {15, 1}, {3, 0}, {7, -2}, {-100000000000000000L, 8}, {12345, 0}, {-5, 9},
            {-1, 9}, {1, 9}, {-1, 3}, {1, 0}, {-1, 0}};
        section("Promise 38: isSound");
        sentence("Checks the theorem for what the slots hold: each way between its neighbours at the scales -1 to 2, in one step "
                + "and in two; turned numbers; texts that are read back; whole quotients and remainders, where they are not "
                + "refused; equal and alike ones without zeros at their ends.");
        due(x.isSound(), true);
        for (int first = 0; first < numbers.length; first++) {
            dueSound(numbers, first);
        }

        sentence("Nothing is changed by that.");
        for (int first = 0; first < numbers.length; first++) {
            dueSound(numbers, first);
            long sum = x.checksum();
            x.isSound();
            due(x.checksum(), sum);
            due(x.undo(), 7);
            due(x.undo(), 6);
            x.isSound();
            due(x.undo(), 5);
        }
        fresh(-MOST, -9);
        x.tell(0);
        x.isSound();
        due(Check.textOf(x), LONGEST);

        sentence("Returns whether all of this is so.");
        for (long digits = -130; digits <= 130; digits += 5) {
            fresh(digits, 2, digits + 1, 1, digits + 2, 0, digits + 3, -1, digits * 10, 3, digits * 100, 4, 7, 0);
            due(x.isSound(), true);
        }
    }

    private void dueSound(long[][] numbers, int first) {
        fresh();
        for (int slot = 0; slot < 8; slot++) {
            long[] number = numbers[(first + slot) % numbers.length];
            x.put(slot, number[0], (int) number[1]);
        }
        type("text");
        due(x.isSound(), true);
        due(Check.textOf(x), "text");
    }
}
