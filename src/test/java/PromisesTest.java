import java.util.NoSuchElementException;
import java.util.function.Supplier;

/** The promises of the document, one method each: ordinary inputs, the edges it names, and wrong inputs. */
public final class PromisesTest {
    private static final Class<?> NO_SLOT = IndexOutOfBoundsException.class;
    private static final Class<?> WRONG = IllegalArgumentException.class;
    private static final Class<?> REFUSED = UnsupportedOperationException.class;
    private static final Class<?> UNDEFINED = ArithmeticException.class;
    private static final Class<?> NO_NUMBER = NumberFormatException.class;
    private static final long MOST = 999999999999999999L;
    private static final int[] NO_SLOTS = {-1, 8, Integer.MIN_VALUE, Integer.MAX_VALUE};

    private final Check check = new Check("PromisesTest");
    private Eightways x = new Eightways();

    public static void main(String[] args) {
        PromisesTest test = new PromisesTest();
        test.promise1New();
        test.promise2Type();
        test.promise3Erase();
        test.promise4SignAt();
        test.promise5Tell();
        test.promise6Read();
        test.promise7Put();
        test.promise8Copy();
        test.promises9To11ScalePrecisionSign();
        test.promise12Compare();
        test.promise13IsEqual();
        test.promise14Whole();
        test.promise15Digits();
        test.promise16Sum();
        test.promise17Difference();
        test.promise18Product();
        test.promise19Power();
        test.promise20Turn();
        test.promise21Size();
        test.promises22And23LeastGreatest();
        test.promise24Rescale();
        test.promise25Quotient();
        test.promise26ExactQuotient();
        test.promise27WholeQuotient();
        test.promise28Remainder();
        test.promise29Round();
        test.promise30Unit();
        test.promise31Bare();
        test.promise32Move();
        test.promise33Times();
        test.promise34Undo();
        test.promises35And36Shares();
        test.promise37Checksum();
        test.promise38IsSound();
        test.check.end();
    }

    // ---- helpers

    private void fresh() {
        x = new Eightways();
    }

    /** A new object with these numbers in the slots 0 and 1. */
    private void fresh(long digits, int scale, long otherDigits, int otherScale) {
        fresh();
        x.put(0, digits, scale);
        x.put(1, otherDigits, otherScale);
    }

    private void due(String what, Object got, Object want) {
        check.due(what, got, want);
    }

    private void dueThrow(String what, Class<?> want, Supplier<?> call) {
        check.dueThrow(what, want, x, call);
    }

    /** The slot holds these digits by this scale, and the call answered their precision. */
    private void dueNumber(String what, int answer, int slot, long digits, int scale) {
        due(what + ": answer", answer, Long.toString(Math.abs(digits)).length());
        due(what + ": scale", x.scale(slot), scale);
        Eightways other = new Eightways();
        other.put(0, digits, scale);
        String text = Check.textOf(x);
        x.digits(slot);
        due(what + ": digits", Check.textOf(x), Long.toString(digits));
        x.erase();
        Check.type(x, text.length() > 24 ? "" : text);
    }

    // ---- the promises

    private void promise1New() {
        fresh();
        for (int slot = 0; slot < 8; slot++) {
            due("new: sign", x.sign(slot), 0);
            due("new: scale", x.scale(slot), 0);
            due("new: precision", x.precision(slot), 1);
        }
        due("new: text", x.erase(), 0);
        dueThrow("new: undo()", NoSuchElementException.class, () -> x.undo());
        Eightways other = new Eightways();
        other.put(0, 5, 0);
        due("new: another one", x.sign(0), 0);
    }

    private void promise2Type() {
        fresh();
        due("type(' ')", x.type(' '), 1);
        due("type('~')", x.type('~'), 2);
        for (char sign : new char[] {0, 31, 127, 128, 255, 256, 256 + 'a', 65535}) {
            dueThrow("type(" + (int) sign + ")", WRONG, () -> x.type(sign));
        }
        for (int count = 3; count <= 24; count++) {
            due("type the sign " + count, x.type((char) ('a' + count - 3)), count);
        }
        dueThrow("type into a full text", IllegalStateException.class, () -> x.type('a'));
        dueThrow("type a wrong sign into a full text", WRONG, () -> x.type((char) 31));
        due("text", Check.textOf(x), " ~abcdefghijklmnopqrstuv");
        x.put(0, -MOST, -9);
        x.tell(0);
        dueThrow("type into a longer text", IllegalStateException.class, () -> x.type('0'));
    }

    private void promise3Erase() {
        fresh();
        due("erase() of none", x.erase(), 0);
        Check.type(x, "12.5");
        due("erase()", x.erase(), 4);
        due("erase() again", x.erase(), 0);
        due("type() then", x.type('1'), 1);
        x.put(0, -MOST, -9);
        x.tell(0);
        due("erase() of the longest", x.erase(), 28);
    }

    private void promise4SignAt() {
        fresh();
        dueThrow("signAt(0) of none", NO_SLOT, () -> x.signAt(0));
        Check.type(x, "-1.5");
        due("signAt(0)", x.signAt(0), '-');
        due("signAt(3)", x.signAt(3), '5');
        for (int place : new int[] {4, -1, 28, Integer.MAX_VALUE, Integer.MIN_VALUE}) {
            dueThrow("signAt(" + place + ")", NO_SLOT, () -> x.signAt(place));
        }
        x.erase();
        dueThrow("signAt(0) of an erased one", NO_SLOT, () -> x.signAt(0));
        x.put(0, -MOST, -9);
        x.tell(0);
        due("signAt(27)", x.signAt(27), '0');
        dueThrow("signAt(28)", NO_SLOT, () -> x.signAt(28));
    }

    private void dueTold(long digits, int scale, String want) {
        fresh();
        Check.type(x, "text");
        x.put(3, digits, scale);
        due("tell: answer for " + want, x.tell(3), want.length());
        due("tell", Check.textOf(x), want);
    }

    private void promise5Tell() {
        dueTold(0, 0, "0");
        dueTold(0, 2, "0.00");
        dueTold(0, -3, "0");
        dueTold(125, 0, "125");
        dueTold(-125, 1, "-12.5");
        dueTold(-125, 2, "-1.25");
        dueTold(125, 3, "0.125");
        dueTold(-125, 5, "-0.00125");
        dueTold(-1250, 3, "-1.250");
        dueTold(5, 9, "0.000000005");
        dueTold(-7, -9, "-7000000000");
        dueTold(-MOST, -9, "-999999999999999999000000000");
        dueTold(MOST, 9, "999999999.999999999");
        for (int slot : NO_SLOTS) {
            dueThrow("tell(" + slot + ")", NO_SLOT, () -> x.tell(slot));
        }
    }

    private void dueRead(String text, long digits, int scale) {
        fresh();
        x.put(2, 77, 7);
        Check.type(x, text);
        int answer = x.read(2);
        due("read " + text + ": the text then", x.erase(), 0);
        dueNumber("read " + text, answer, 2, digits, scale);
        due("read " + text + ": undo()", x.undo(), 2);
        due("read " + text + ": scale then", x.scale(2), 7);
    }

    private void dueUnread(String text, Class<?> want) {
        fresh();
        x.put(2, 77, 7);
        Check.type(x, text);
        dueThrow("read " + text, want, () -> x.read(2));
        for (int slot : NO_SLOTS) {
            dueThrow("read " + text + " to " + slot, NO_SLOT, () -> x.read(slot));
        }
    }

    private void promise6Read() {
        dueRead("0", 0, 0);
        dueRead("-0.00", 0, 2);
        dueRead("+12", 12, 0);
        dueRead("-1.5", -15, 1);
        dueRead("1.50E+3", 150, -1);
        dueRead(".5", 5, 1);
        dueRead("-.5e-2", -5, 3);
        dueRead("5.", 5, 0);
        dueRead("5.e1", 5, -1);
        dueRead("00.0050", 50, 4);
        dueRead("1e9", 1, -9);
        dueRead("1E-9", 1, 9);
        dueRead("1E+009", 1, -9);
        dueRead("1.2e0000", 12, 1);
        dueRead("1.000000000e10", 1000000000, -1);
        dueRead("123456789.012345678", 123456789012345678L, 9);
        dueRead("-000000000000000001", -1, 0);
        dueRead("123456789012345678E-9", 123456789012345678L, 9);
        for (String text : new String[] {"1E10", "1E-10", "1e9999", "1e-999", "1e12345", "1e+0009", "xEabcde", "E12345",
                "0000000000000000001", "1.123456789012345678", "x1234567890123456789", "1234567890123456789e1", "0.0000000001",
                "0e10", "1ex1234"}) {
            dueUnread(text, REFUSED);
        }
        for (String text : new String[] {"", " ", ".", "+", "-", "+.", "e", "e5", ".e5", "-e5", "1e", "1e+", "1e-", "1.2.3", "1 ",
                " 1", "--1", "+-1", "1-", "1e1.5", "1e5e", "1e1e", "1e--1", "1e+-1", "1E 5", "1,5", "1_0", "1f", "0x1F", "1..",
                "123456789012345678x", "1/", "1:", "1e/", "1e:"}) {
            dueUnread(text, NO_NUMBER);
        }
        fresh();
        x.put(0, 1, -9);
        x.put(1, -MOST, -1);
        x.tell(0);
        due("read what was told", x.read(2), 10);
        x.tell(1);
        dueThrow("read what was told of 19 digits", REFUSED, () -> x.read(2));
    }

    private void promise7Put() {
        fresh();
        dueNumber("put(7, -25, 1)", x.put(7, -25, 1), 7, -25, 1);
        dueNumber("put(0, most, 9)", x.put(0, MOST, 9), 0, MOST, 9);
        dueNumber("put(0, least, -9)", x.put(0, -MOST, -9), 0, -MOST, -9);
        dueNumber("put(0, 0, -9)", x.put(0, 0, -9), 0, 0, -9);
        for (long digits : new long[] {MOST + 1, -MOST - 1, Long.MAX_VALUE, Long.MIN_VALUE}) {
            dueThrow("put(1, " + digits + ", 0)", WRONG, () -> x.put(1, digits, 0));
        }
        for (int scale : new int[] {10, -10, Integer.MAX_VALUE, Integer.MIN_VALUE}) {
            dueThrow("put(1, 0, " + scale + ")", WRONG, () -> x.put(1, 0, scale));
        }
        for (int slot : NO_SLOTS) {
            dueThrow("put to " + slot, NO_SLOT, () -> x.put(slot, 1, 0));
            dueThrow("put a wrong one to " + slot, NO_SLOT, () -> x.put(slot, 1, 10));
        }
    }

    private void promise8Copy() {
        fresh(-125, 2, 7, 0);
        dueNumber("copy(0, 1)", x.copy(0, 1), 1, -125, 2);
        dueNumber("copy(0, 0)", x.copy(0, 0), 0, -125, 2);
        due("copy to itself is kept", x.undo(), 0);
        due("copy is kept", x.undo(), 1);
        dueNumber("the slot then", x.precision(1), 1, 7, 0);
        for (int slot : NO_SLOTS) {
            dueThrow("copy from " + slot, NO_SLOT, () -> x.copy(slot, 0));
            dueThrow("copy to " + slot, NO_SLOT, () -> x.copy(0, slot));
        }
    }

    private void promises9To11ScalePrecisionSign() {
        fresh(-100, -9, 0, 9);
        x.put(2, MOST, 3);
        due("scale(0)", x.scale(0), -9);
        due("scale(1)", x.scale(1), 9);
        due("scale(2)", x.scale(2), 3);
        due("precision(0)", x.precision(0), 3);
        due("precision(1)", x.precision(1), 1);
        due("precision(2)", x.precision(2), 18);
        due("sign(0)", x.sign(0), -1);
        due("sign(1)", x.sign(1), 0);
        due("sign(2)", x.sign(2), 1);
        long power = 1;
        for (int digits = 1; digits <= 18; digits++) {
            x.put(3, power, 0);
            due("precision of " + power, x.precision(3), digits);
            x.put(3, -(10 * (power - 1) + 9), 0);
            due("precision of nines", x.precision(3), digits);
            power *= 10;
        }
        for (int slot : NO_SLOTS) {
            dueThrow("scale(" + slot + ")", NO_SLOT, () -> x.scale(slot));
            dueThrow("precision(" + slot + ")", NO_SLOT, () -> x.precision(slot));
            dueThrow("sign(" + slot + ")", NO_SLOT, () -> x.sign(slot));
        }
    }

    private void dueCompared(long a, int scaleOfA, long b, int scaleOfB, int want) {
        fresh(a, scaleOfA, b, scaleOfB);
        due("compare " + a + "/" + scaleOfA + " " + b + "/" + scaleOfB, x.compare(0, 1), want);
        due("compare the other way round", x.compare(1, 0), -want);
    }

    private void promise12Compare() {
        dueCompared(1, 0, 2, 0, -1);
        dueCompared(-1, 0, -2, 0, 1);
        dueCompared(-5, 0, 5, 0, -1);
        dueCompared(0, 9, 0, -9, 0);
        dueCompared(0, 9, 1, 9, -1);
        dueCompared(0, -9, -1, 9, 1);
        dueCompared(150, 2, 15, 1, 0);
        dueCompared(-150, 2, -15, 1, 0);
        dueCompared(151, 2, 15, 1, 1);
        dueCompared(-151, 2, -15, 1, -1);
        dueCompared(MOST, 9, 1, -9, -1);
        dueCompared(-MOST, -9, 1, 9, -1);
        dueCompared(1, -9, 1, 9, 1);
        dueCompared(MOST, 9, 1000000000, 0, -1);
        dueCompared(100000000000000000L, 8, 1, -9, 0);
        dueCompared(100000000000000001L, 8, 1, -9, 1);
        dueCompared(99, 0, 1, -2, -1);
        for (int slot : NO_SLOTS) {
            dueThrow("compare(" + slot + ", 0)", NO_SLOT, () -> x.compare(slot, 0));
            dueThrow("compare(0, " + slot + ")", NO_SLOT, () -> x.compare(0, slot));
        }
    }

    private void promise13IsEqual() {
        fresh(150, 2, 15, 1);
        due("isEqual of alike ones", x.isEqual(0, 1), false);
        x.put(1, 150, 2);
        due("isEqual", x.isEqual(0, 1), true);
        x.put(1, 150, 1);
        due("isEqual by another scale", x.isEqual(0, 1), false);
        x.put(1, -150, 2);
        due("isEqual by another sign", x.isEqual(0, 1), false);
        due("isEqual to itself", x.isEqual(0, 0), true);
        due("isEqual of zeros", x.isEqual(2, 3), true);
        x.put(2, 0, 1);
        due("isEqual of unlike zeros", x.isEqual(2, 3), false);
        for (int slot : NO_SLOTS) {
            dueThrow("isEqual(" + slot + ", 0)", NO_SLOT, () -> x.isEqual(slot, 0));
            dueThrow("isEqual(0, " + slot + ")", NO_SLOT, () -> x.isEqual(0, slot));
        }
    }

    private void dueWhole(long digits, int scale, Object want) {
        fresh();
        x.put(4, digits, scale);
        due("whole of " + digits + "/" + scale, Check.answerOf(() -> x.whole(4)), String.valueOf(want));
    }

    private void promise14Whole() {
        dueWhole(0, 9, 0L);
        dueWhole(0, -9, 0L);
        dueWhole(-12, 0, -12L);
        dueWhole(1200, 2, 12L);
        dueWhole(-1200, 2, -12L);
        dueWhole(7, -9, 7000000000L);
        dueWhole(MOST, 0, MOST);
        dueWhole(1000000000, 9, 1L);
        dueWhole(922337203685477580L, -1, 9223372036854775800L);
        dueWhole(-922337203685477580L, -1, -9223372036854775800L);
        dueWhole(9223372036L, -9, 9223372036000000000L);
        String none = "throws.ArithmeticException";
        dueWhole(1201, 2, none);
        dueWhole(-5, 1, none);
        dueWhole(1, 9, none);
        dueWhole(922337203685477581L, -1, none);
        dueWhole(-922337203685477581L, -1, none);
        dueWhole(9223372037L, -9, none);
        dueWhole(MOST, -9, none);
        dueThrow("whole of no long", UNDEFINED, () -> x.whole(4));
        for (int slot : NO_SLOTS) {
            dueThrow("whole(" + slot + ")", NO_SLOT, () -> x.whole(slot));
        }
    }

    private void promise15Digits() {
        fresh(-125, 5, 7, -9);
        Check.type(x, "text");
        due("digits(0)", x.digits(0), 4);
        due("digits(0): text", Check.textOf(x), "-125");
        due("digits(1)", x.digits(1), 1);
        due("digits(1): text", Check.textOf(x), "7");
        x.put(2, 0, 9);
        due("digits(2)", x.digits(2), 1);
        due("digits(2): text", Check.textOf(x), "0");
        x.put(2, -MOST, -9);
        due("digits of the longest", x.digits(2), 19);
        due("the scale is as it was", x.scale(2), -9);
        for (int slot : NO_SLOTS) {
            dueThrow("digits(" + slot + ")", NO_SLOT, () -> x.digits(slot));
        }
    }

    /** No slot of an act with two numbers may be missing. */
    private void dueSlots(String what, ActOnTwo act) {
        for (int slot : NO_SLOTS) {
            dueThrow(what + ": a is " + slot, NO_SLOT, () -> act.answer(slot, 0, 0));
            dueThrow(what + ": b is " + slot, NO_SLOT, () -> act.answer(0, slot, 0));
            dueThrow(what + ": to is " + slot, NO_SLOT, () -> act.answer(0, 0, slot));
        }
    }

    /** No slot of an act with one number may be missing. */
    private void dueSlots(String what, ActOnOne act) {
        for (int slot : NO_SLOTS) {
            dueThrow(what + ": a is " + slot, NO_SLOT, () -> act.answer(slot, 0));
            dueThrow(what + ": to is " + slot, NO_SLOT, () -> act.answer(0, slot));
        }
    }

    private interface ActOnOne {
        int answer(int a, int to);
    }

    private interface ActOnTwo {
        int answer(int a, int b, int to);
    }

    private void promise16Sum() {
        fresh(125, 2, -5, 0);
        dueNumber("sum", x.sum(0, 1, 2), 2, -375, 2);
        dueNumber("sum, other way round", x.sum(1, 0, 2), 2, -375, 2);
        dueNumber("sum in place", x.sum(0, 0, 0), 0, 250, 2);
        fresh(MOST, 0, -1, 0);
        dueNumber("sum near the edge", x.sum(0, 1, 2), 2, MOST - 1, 0);
        x.put(1, 1, 0);
        dueThrow("sum beyond the edge", REFUSED, () -> x.sum(0, 1, 2));
        dueThrow("sum far beyond the edge", REFUSED, () -> x.sum(0, 0, 2));
        fresh(1, 9, 0, -8);
        dueNumber("0 raised by 17", x.sum(0, 1, 2), 2, 1, 9);
        x.put(1, 0, -9);
        dueThrow("0 raised by 18", REFUSED, () -> x.sum(0, 1, 2));
        dueThrow("0 raised by 18, the other way round", REFUSED, () -> x.sum(1, 0, 2));
        dueSlots("sum", (a, b, to) -> x.sum(a, b, to));
    }

    private void promise17Difference() {
        fresh(125, 2, 5, 0);
        dueNumber("difference", x.difference(0, 1, 2), 2, -375, 2);
        dueNumber("difference, other way round", x.difference(1, 0, 2), 2, 375, 2);
        dueNumber("difference in place", x.difference(0, 0, 0), 0, 0, 2);
        fresh(-MOST, 0, 1, 0);
        dueThrow("difference beyond the edge", REFUSED, () -> x.difference(0, 1, 2));
        dueNumber("the slot that is subtracted stays", x.precision(1), 1, 1, 0);
        fresh(1, -9, 1, 9);
        dueThrow("difference raised by 18", REFUSED, () -> x.difference(0, 1, 2));
        dueThrow("difference raised by 18, other way round", REFUSED, () -> x.difference(1, 0, 2));
        fresh(5, -9, 1, 8);
        dueNumber("difference raised by 17", x.difference(0, 1, 2), 2, 499999999999999999L, 8);
        dueSlots("difference", (a, b, to) -> x.difference(a, b, to));
    }

    private void promise18Product() {
        fresh(-125, 2, 50, -1);
        dueNumber("product", x.product(0, 1, 2), 2, -6250, 1);
        dueNumber("product in place", x.product(0, 0, 0), 0, 15625, 4);
        fresh(999999999, 4, -999999999, 5);
        dueNumber("product of 18 digits", x.product(0, 1, 2), 2, -999999998000000001L, 9);
        x.put(1, 1000000000, 5);
        dueThrow("product of 19 digits", REFUSED, () -> x.product(0, 1, 2));
        fresh(MOST, 0, 0, 0);
        dueThrow("product of 19 digits with 0", REFUSED, () -> x.product(0, 1, 2));
        fresh(1, 5, 1, 5);
        dueThrow("product of scale 10", REFUSED, () -> x.product(0, 1, 2));
        fresh(0, -5, 0, -5);
        dueThrow("product of scale -10", REFUSED, () -> x.product(0, 1, 2));
        fresh(0, -5, 3, -4);
        dueNumber("product of scale -9", x.product(0, 1, 2), 2, 0, -9);
        dueSlots("product", (a, b, to) -> x.product(a, b, to));
    }

    private void promise19Power() {
        fresh(-12, 1, 0, 0);
        dueNumber("power 3", x.power(0, 3, 2), 2, -1728, 3);
        dueNumber("power 2", x.power(0, 2, 2), 2, 144, 2);
        dueNumber("power 1", x.power(0, 1, 2), 2, -12, 1);
        dueNumber("power 0", x.power(0, 0, 2), 2, 1, 0);
        dueNumber("power 9", x.power(0, 9, 0), 0, -5159780352L, 9);
        dueNumber("0 by the power 0", x.power(1, 0, 3), 3, 1, 0);
        dueNumber("0 by the power 9", x.power(1, 9, 3), 3, 0, 0);
        fresh(MOST, 9, 99, 0);
        dueNumber("power 0 of 18 digits", x.power(0, 0, 2), 2, 1, 0);
        dueNumber("power 9 of 2 digits", x.power(1, 9, 2), 2, 913517247483640899L, 0);
        dueThrow("power 2 of 18 digits", REFUSED, () -> x.power(0, 2, 2));
        x.put(1, 100, 0);
        dueThrow("power 7 of 3 digits", REFUSED, () -> x.power(1, 7, 2));
        x.put(1, 0, 2);
        dueThrow("power of scale 10", REFUSED, () -> x.power(1, 5, 2));
        for (int n : new int[] {-1, 10, Integer.MIN_VALUE, Integer.MAX_VALUE}) {
            dueThrow("power " + n, WRONG, () -> x.power(0, n, 2));
            dueSlots("power " + n, (a, to) -> x.power(a, n, to));
        }
        dueSlots("power", (a, to) -> x.power(a, 2, to));
    }

    private void promise20Turn() {
        fresh(-125, 2, MOST, -9);
        dueNumber("turn", x.turn(0, 2), 2, 125, 2);
        dueNumber("turn", x.turn(1, 1), 1, -MOST, -9);
        x.put(3, 0, 4);
        dueNumber("turn 0", x.turn(3, 0), 0, 0, 4);
        dueSlots("turn", (a, to) -> x.turn(a, to));
    }

    private void promise21Size() {
        fresh(-125, 2, MOST, -9);
        dueNumber("size", x.size(0, 2), 2, 125, 2);
        dueNumber("size", x.size(1, 1), 1, MOST, -9);
        dueNumber("the number stays", x.precision(0), 0, -125, 2);
        x.put(3, 0, 4);
        dueNumber("size of 0", x.size(3, 3), 3, 0, 4);
        dueSlots("size", (a, to) -> x.size(a, to));
    }

    private void promises22And23LeastGreatest() {
        fresh(-125, 2, 1, 0);
        dueNumber("least", x.least(0, 1, 2), 2, -125, 2);
        dueNumber("least, other way round", x.least(1, 0, 2), 2, -125, 2);
        dueNumber("greatest", x.greatest(0, 1, 2), 2, 1, 0);
        dueNumber("greatest, other way round", x.greatest(1, 0, 2), 2, 1, 0);
        fresh(150, 2, 15, 1);
        dueNumber("least of alike ones", x.least(0, 1, 2), 2, 150, 2);
        dueNumber("least of alike ones", x.least(1, 0, 2), 2, 15, 1);
        dueNumber("greatest of alike ones", x.greatest(0, 1, 2), 2, 150, 2);
        dueNumber("greatest of alike ones", x.greatest(1, 0, 2), 2, 15, 1);
        dueSlots("least", (a, b, to) -> x.least(a, b, to));
        dueSlots("greatest", (a, b, to) -> x.greatest(a, b, to));
    }

    /** What the ways u, d, c, f, h, l and e make of a number at the scale 0. */
    private void dueWays(long digits, int scale, long... want) {
        String ways = "udcfhle";
        for (int way = 0; way < 7; way++) {
            fresh(digits, scale, 1, 0);
            char sign = ways.charAt(way);
            String what = digits + "/" + scale + " by " + sign;
            dueNumber("rescale " + what, x.rescale(0, 0, sign, 2), 2, want[way], 0);
            dueNumber("quotient " + what, x.quotient(0, 1, 0, sign, 3), 3, want[way], 0);
        }
        dueThrow("rescale by n", UNDEFINED, () -> x.rescale(0, 0, 'n', 2));
        dueThrow("quotient by n", UNDEFINED, () -> x.quotient(0, 1, 0, 'n', 2));
    }

    private void dueWaysOfAll() {
        dueWays(25, 1, 3, 2, 3, 2, 3, 2, 2);
        dueWays(-25, 1, -3, -2, -2, -3, -3, -2, -2);
        dueWays(15, 1, 2, 1, 2, 1, 2, 1, 2);
        dueWays(-15, 1, -2, -1, -1, -2, -2, -1, -2);
        dueWays(24, 1, 3, 2, 3, 2, 2, 2, 2);
        dueWays(-26, 1, -3, -2, -2, -3, -3, -3, -3);
        dueWays(2501, 3, 3, 2, 3, 2, 3, 3, 3);
        dueWays(-2499, 3, -3, -2, -2, -3, -2, -2, -2);
        dueWays(5, 1, 1, 0, 1, 0, 1, 0, 0);
        dueWays(-5, 1, -1, 0, 0, -1, -1, 0, 0);
        dueWays(1, 9, 1, 0, 1, 0, 0, 0, 0);
        dueWays(-1, 9, -1, 0, 0, -1, 0, 0, 0);
        dueWays(MOST, 9, 1000000000, 999999999, 1000000000, 999999999, 1000000000, 1000000000, 1000000000);
    }

    private void promise24Rescale() {
        dueWaysOfAll();
        fresh(-125, 2, 1200, 2);
        for (char way : "udcfhlen".toCharArray()) {
            dueNumber("raised by " + way, x.rescale(0, 5, way, 2), 2, -125000, 5);
            dueNumber("same by " + way, x.rescale(0, 2, way, 2), 2, -125, 2);
            dueNumber("multiple by " + way, x.rescale(1, 0, way, 2), 2, 12, 0);
        }
        dueNumber("to the scale -9", x.rescale(0, -9, 'f', 0), 0, -1, -9);
        fresh(-MOST, 9, 499999999999999999L, 9);
        dueNumber("by 18 places", x.rescale(0, -9, 'h', 2), 2, -1, -9);
        dueNumber("by 18 places", x.rescale(1, -9, 'h', 2), 2, 0, -9);
        dueNumber("by 18 places", x.rescale(1, -9, 'u', 2), 2, 1, -9);
        fresh(0, -9, 7, -8);
        dueNumber("raised by 17", x.rescale(1, 9, 'n', 2), 2, 700000000000000000L, 9);
        dueThrow("0 raised by 18", REFUSED, () -> x.rescale(0, 9, 'n', 2));
        x.put(1, 10, -8);
        dueThrow("2 digits raised by 17", REFUSED, () -> x.rescale(1, 9, 'd', 2));
        dueWrongArguments("rescale", (a, scale, way, to) -> x.rescale(a, scale, way, to), -9, 9);
        dueSlots("rescale", (a, to) -> x.rescale(a, 0, 'd', to));
        dueSlots("rescale by a wrong way", (a, to) -> x.rescale(a, 10, 'x', to));
    }

    private interface ActByWay {
        int answer(int a, int number, char way, int to);
    }

    private void dueWrongArguments(String what, ActByWay act, int lowest, int highest) {
        for (char way : new char[] {'x', 'U', 'N', ' ', 0, 'u' + 256, 65535}) {
            dueThrow(what + " by " + (int) way, WRONG, () -> act.answer(0, 0, way, 2));
        }
        for (int number : new int[] {lowest - 1, highest + 1, Integer.MIN_VALUE, Integer.MAX_VALUE}) {
            dueThrow(what + " with " + number, WRONG, () -> act.answer(0, number, 'd', 2));
        }
        x.put(0, 0, -9);
        dueThrow(what + ": wrong ahead of refused", WRONG, () -> act.answer(0, 9, 'x', 2));
    }

    private void promise25Quotient() {
        fresh(10, 0, 3, 0);
        dueNumber("10 by 3", x.quotient(0, 1, 2, 'e', 2), 2, 333, 2);
        dueNumber("10 by 3, up", x.quotient(0, 1, 0, 'u', 2), 2, 4, 0);
        dueNumber("10 by 3 to the scale -1", x.quotient(0, 1, -1, 'u', 2), 2, 1, -1);
        fresh(-7, 0, 2, 0);
        dueNumber("-7 by 2 h", x.quotient(0, 1, 0, 'h', 2), 2, -4, 0);
        dueNumber("-7 by 2 l", x.quotient(0, 1, 0, 'l', 2), 2, -3, 0);
        dueNumber("-7 by 2 e", x.quotient(0, 1, 0, 'e', 2), 2, -4, 0);
        dueNumber("-7 by 2 c", x.quotient(0, 1, 0, 'c', 2), 2, -3, 0);
        dueNumber("-7 by 2 f", x.quotient(0, 1, 0, 'f', 2), 2, -4, 0);
        fresh(7, 0, -2, 0);
        dueNumber("7 by -2 f", x.quotient(0, 1, 0, 'f', 2), 2, -4, 0);
        dueNumber("7 by -2 c", x.quotient(0, 1, 0, 'c', 2), 2, -3, 0);
        dueNumber("7 by -2 h", x.quotient(0, 1, 0, 'h', 2), 2, -4, 0);
        dueNumber("7 by -2 l", x.quotient(0, 1, 0, 'l', 2), 2, -3, 0);
        dueNumber("7 by -2 e", x.quotient(0, 1, 0, 'e', 2), 2, -4, 0);
        dueNumber("7 by -2 u", x.quotient(0, 1, 0, 'u', 2), 2, -4, 0);
        dueNumber("7 by -2 d", x.quotient(0, 1, 0, 'd', 2), 2, -3, 0);
        dueNumber("7 by -2 exactly", x.quotient(0, 1, 1, 'n', 2), 2, -35, 1);
        dueThrow("7 by -2, no multiple", UNDEFINED, () -> x.quotient(0, 1, 0, 'n', 2));
        fresh(-1, 9, -3, 0);
        dueNumber("tiny, up", x.quotient(0, 1, 9, 'c', 2), 2, 1, 9);
        dueNumber("tiny, down", x.quotient(0, 1, 9, 'f', 2), 2, 0, 9);
        fresh(5, 0, 2, 5);
        dueNumber("raised by 14", x.quotient(0, 1, 9, 'n', 2), 2, 250000000000000L, 9);
        fresh(12345, 0, 2, 5);
        dueThrow("5 digits raised by 14", REFUSED, () -> x.quotient(0, 1, 9, 'n', 2));
        fresh(1234, 0, 1, 5);
        dueNumber("4 digits raised by 14", x.quotient(0, 1, 9, 'n', 2), 2, 123400000000000000L, 9);
        fresh(123456789012345678L, 9, 12, -8);
        dueThrow("2 digits of the divisor raised by 17", REFUSED, () -> x.quotient(0, 1, 0, 'd', 2));
        x.put(1, 1, -8);
        dueNumber("1 digit of the divisor raised by 17", x.quotient(0, 1, 0, 'u', 2), 2, 2, 0);
        fresh(5, 0, 0, 0);
        dueThrow("by 0", UNDEFINED, () -> x.quotient(0, 1, 0, 'd', 2));
        dueThrow("0 by 0", UNDEFINED, () -> x.quotient(1, 1, 0, 'd', 2));
        x.put(1, 0, 9);
        dueThrow("refused ahead of by 0", REFUSED, () -> x.quotient(0, 1, 9, 'd', 2));
        fresh(5, 9, 0, -9);
        dueThrow("refused by 0 that is raised", REFUSED, () -> x.quotient(0, 1, 0, 'd', 2));
        dueWrongArguments("quotient", (a, scale, way, to) -> x.quotient(a, 1, scale, way, to), -9, 9);
        dueSlots("quotient", (a, b, to) -> x.quotient(a, b, 0, 'd', to));
        dueSlots("quotient by a wrong way", (a, b, to) -> x.quotient(a, b, 10, 'x', to));
    }

    private void promise26ExactQuotient() {
        fresh(10, 0, 4, 0);
        dueNumber("10 by 4", x.exactQuotient(0, 1, 2), 2, 25, 1);
        dueNumber("4 by 10", x.exactQuotient(1, 0, 2), 2, 4, 1);
        fresh(-600, 2, 3, 0);
        dueNumber("-6.00 by 3", x.exactQuotient(0, 1, 2), 2, -200, 2);
        fresh(600, 0, 3, 2);
        dueNumber("600 by 0.03", x.exactQuotient(0, 1, 2), 2, 200, -2);
        fresh(1, 0, 8192, 0);
        dueThrow("1 by 8192 to the scale 13", REFUSED, () -> x.exactQuotient(0, 1, 2));
        x.put(0, 1, -4);
        dueNumber("1E4 by 8192", x.exactQuotient(0, 1, 2), 2, 1220703125, 9);
        x.put(0, 9999, -4);
        dueNumber("9999E4 by 8192", x.exactQuotient(0, 1, 2), 2, 12205810546875L, 9);
        fresh(99999999999999L, 0, 8, 0);
        dueNumber("14 digits by 8", x.exactQuotient(0, 1, 2), 2, 12499999999999875L, 3);
        x.put(0, 100000000000000L, 0);
        dueThrow("15 digits by 8", REFUSED, () -> x.exactQuotient(0, 1, 2));
        fresh(99999999999L, 0, 64, 0);
        dueNumber("11 digits by 64", x.exactQuotient(0, 1, 2), 2, 1562499999984375L, 6);
        x.put(0, 100000000000L, 0);
        dueThrow("12 digits by 64", REFUSED, () -> x.exactQuotient(0, 1, 2));
        fresh(-99999999, 0, 512, 0);
        dueNumber("8 digits by 512", x.exactQuotient(0, 1, 2), 2, -195312498046875L, 9);
        x.put(0, 100000000, 0);
        dueThrow("9 digits by 512", REFUSED, () -> x.exactQuotient(0, 1, 2));
        fresh(10000, 0, 8192, 0);
        dueThrow("5 digits by 8192", REFUSED, () -> x.exactQuotient(0, 1, 2));
        fresh(0, 3, 12345, 0);
        dueThrow("0 by 5 digits", REFUSED, () -> x.exactQuotient(0, 1, 2));
        x.put(1, -1234, -6);
        dueNumber("0 by 4 digits", x.exactQuotient(0, 1, 2), 2, 0, 9);
        x.put(1, -1234, -7);
        dueThrow("0 of the scale 10", REFUSED, () -> x.exactQuotient(0, 1, 2));
        fresh(3, -9, 7, 9);
        dueThrow("no last digit", UNDEFINED, () -> x.exactQuotient(0, 1, 2));
        fresh(1, 0, 1024, 0);
        dueThrow("1 by 1024 to the scale 10", REFUSED, () -> x.exactQuotient(0, 1, 2));
        fresh(1, 0, 0, 0);
        dueThrow("by 0", UNDEFINED, () -> x.exactQuotient(0, 1, 2));
        dueThrow("0 by 0", UNDEFINED, () -> x.exactQuotient(1, 1, 2));
        x.put(0, 100000000000000L, 0);
        dueThrow("15 digits by 0", REFUSED, () -> x.exactQuotient(0, 1, 2));
        dueSlots("exactQuotient", (a, b, to) -> x.exactQuotient(a, b, to));
    }

    private void promise27WholeQuotient() {
        fresh(-75, 1, 2, 0);
        dueNumber("-7.5 by 2", x.wholeQuotient(0, 1, 2), 2, -30, 1);
        dueNumber("2 by -7.5", x.wholeQuotient(1, 0, 2), 2, 0, -1);
        fresh(7, -2, 3, 0);
        dueNumber("700 by 3", x.wholeQuotient(0, 1, 2), 2, 233, 0);
        fresh(9, -2, 3, 0);
        dueNumber("900 by 3", x.wholeQuotient(0, 1, 2), 2, 3, -2);
        fresh(72, -2, 6, 1);
        dueNumber("7200 by 0.6", x.wholeQuotient(0, 1, 2), 2, 12, -3);
        fresh(1, -2, -3, 1);
        dueNumber("100 by -0.3", x.wholeQuotient(0, 1, 2), 2, -333, 0);
        fresh(1, -2, 1, 1);
        dueNumber("100 by 0.1", x.wholeQuotient(0, 1, 2), 2, 1, -3);
        fresh(1230, -2, 41, -1);
        dueNumber("123000 by 410", x.wholeQuotient(0, 1, 2), 2, 30, -1);
        fresh(5, 5, 3, -5);
        dueThrow("a quotient of the scale 10", REFUSED, () -> x.wholeQuotient(0, 1, 2));
        fresh(3, -2, 7, 9);
        dueNumber("300 by 0.000000007", x.wholeQuotient(0, 1, 2), 2, 42857142857L, 0);
        fresh(7, -2, 7, 9);
        dueThrow("a quotient of the scale -11", REFUSED, () -> x.wholeQuotient(0, 1, 2));
        fresh(123456789012L, 0, 7, 0);
        dueNumber("12 digits by 1", x.wholeQuotient(0, 1, 2), 2, 17636684144L, 0);
        x.put(0, 123456789012L, 1);
        dueThrow("12 digits by 1, 1 apart", REFUSED, () -> x.wholeQuotient(0, 1, 2));
        x.put(0, 1234567890123L, 0);
        dueThrow("13 digits by 1", REFUSED, () -> x.wholeQuotient(0, 1, 2));
        fresh(123456789, 0, 12, 0);
        dueNumber("9 digits by 2", x.wholeQuotient(0, 1, 2), 2, 10288065, 0);
        x.put(0, 1234567890, 0);
        dueThrow("10 digits by 2", REFUSED, () -> x.wholeQuotient(0, 1, 2));
        fresh(999999, 3, -123, 3);
        dueNumber("6 digits by 3", x.wholeQuotient(0, 1, 2), 2, -8130, 0);
        x.put(0, 1000000, 3);
        dueThrow("7 digits by 3", REFUSED, () -> x.wholeQuotient(0, 1, 2));
        fresh(1, 0, 1000, 0);
        dueThrow("by 4 digits", REFUSED, () -> x.wholeQuotient(0, 1, 2));
        fresh(5, 0, 0, 0);
        dueThrow("by 0", UNDEFINED, () -> x.wholeQuotient(0, 1, 2));
        x.put(0, 1234567890123L, 0);
        dueThrow("13 digits by 0", REFUSED, () -> x.wholeQuotient(0, 1, 2));
        dueSlots("wholeQuotient", (a, b, to) -> x.wholeQuotient(a, b, to));
    }

    private void promise28Remainder() {
        fresh(-75, 1, 2, 0);
        dueNumber("-7.5 by 2", x.remainder(0, 1, 2), 2, -15, 1);
        dueNumber("2 by -7.5", x.remainder(1, 0, 2), 2, 2, 0);
        fresh(7, -2, 3, 0);
        dueNumber("700 by 3", x.remainder(0, 1, 2), 2, 1, 0);
        fresh(9, -2, 3, 0);
        dueNumber("900 by 3", x.remainder(0, 1, 2), 2, 0, -2);
        fresh(1, 0, 7, 2);
        dueNumber("1 by 0.07", x.remainder(0, 1, 2), 2, 2, 2);
        fresh(5, 5, 3, -5);
        dueNumber("where the quotient is not near", x.remainder(0, 1, 2), 2, 5, 5);
        fresh(7, -2, 7, 9);
        dueNumber("where the quotient is not near", x.remainder(0, 1, 2), 2, 0, -2);
        fresh(123456789012L, 0, 7, 0);
        dueNumber("12 digits by 1", x.remainder(0, 1, 2), 2, 4, 0);
        x.put(0, 123456789012L, 1);
        dueThrow("12 digits by 1, 1 apart", REFUSED, () -> x.remainder(0, 1, 2));
        fresh(999999, 3, -123, 3);
        dueNumber("6 digits by 3", x.remainder(0, 1, 2), 2, 9, 3);
        x.put(0, 1000000, 3);
        dueThrow("7 digits by 3", REFUSED, () -> x.remainder(0, 1, 2));
        fresh(1, 0, 1000, 0);
        dueThrow("by 4 digits", REFUSED, () -> x.remainder(0, 1, 2));
        fresh(5, 0, 0, 0);
        dueThrow("by 0", UNDEFINED, () -> x.remainder(0, 1, 2));
        x.put(0, 1234567890123L, 0);
        dueThrow("13 digits by 0", REFUSED, () -> x.remainder(0, 1, 2));
        dueSlots("remainder", (a, b, to) -> x.remainder(a, b, to));
    }

    private void promise29Round() {
        fresh(123456789, 4, -9999, 1);
        dueNumber("to 0 digits", x.round(0, 0, 'n', 2), 2, 123456789, 4);
        dueNumber("to 9 digits", x.round(0, 9, 'n', 2), 2, 123456789, 4);
        dueNumber("to 18 digits", x.round(0, 18, 'n', 2), 2, 123456789, 4);
        dueNumber("to 5 digits", x.round(0, 5, 'f', 2), 2, 12345, 0);
        dueNumber("to 1 digit", x.round(0, 1, 'u', 2), 2, 2, -4);
        dueThrow("to 5 digits by n", UNDEFINED, () -> x.round(0, 5, 'n', 2));
        dueNumber("one digit more", x.round(1, 3, 'h', 2), 2, -100, -1);
        dueNumber("no digit more", x.round(1, 3, 'c', 2), 2, -999, 0);
        dueNumber("one digit more of 1", x.round(1, 1, 'f', 2), 2, -1, -3);
        fresh(1200, 2, 250, 1);
        dueNumber("zeros by n", x.round(0, 2, 'n', 2), 2, 12, 0);
        long[] want = {3, 2, 3, 2, 3, 2, 2};
        for (int way = 0; way < 7; way++) {
            dueNumber("25.0 to 1 digit", x.round(1, 1, "udcfhle".charAt(way), 2), 2, want[way], -1);
        }
        x.put(0, 0, -9);
        dueNumber("0", x.round(0, 1, 'n', 2), 2, 0, -9);
        fresh(12, -9, 999, -8);
        dueThrow("refused ahead of being rounded", REFUSED, () -> x.round(0, 1, 'n', 2));
        dueNumber("to the scale -9", x.round(1, 2, 'd', 2), 2, 99, -9);
        dueThrow("to the scale -10 by one digit more", REFUSED, () -> x.round(1, 2, 'u', 2));
        fresh(MOST, 9, 0, 0);
        dueNumber("18 digits to 17", x.round(0, 17, 'h', 2), 2, 10000000000000000L, 7);
        dueNumber("18 digits to 1", x.round(0, 1, 'd', 2), 2, 9, -8);
        dueNumber("18 digits to 1, up", x.round(0, 1, 'u', 2), 2, 1, -9);
        dueWrongArguments("round", (a, digits, way, to) -> x.round(a, digits, way, to), 0, 18);
        dueSlots("round", (a, to) -> x.round(a, 1, 'd', to));
        dueSlots("round by a wrong way", (a, to) -> x.round(a, 19, 'x', to));
    }

    private void promise30Unit() {
        fresh(-125, 2, 0, -9);
        dueNumber("unit", x.unit(0, 2), 2, 1, 2);
        dueNumber("unit of 0", x.unit(1, 1), 1, 1, -9);
        dueSlots("unit", (a, to) -> x.unit(a, to));
    }

    private void promise31Bare() {
        fresh(-1200, 3, 100, 0);
        dueNumber("bare", x.bare(0, 2), 2, -12, 1);
        dueNumber("bare of a whole one", x.bare(1, 2), 2, 1, -2);
        dueNumber("bare again", x.bare(2, 2), 2, 1, -2);
        x.put(3, 0, -5);
        dueNumber("bare of 0", x.bare(3, 2), 2, 0, 0);
        fresh(100000000000000000L, 8, 10, -9);
        dueNumber("bare by 17", x.bare(0, 2), 2, 1, -9);
        dueThrow("bare of the scale -10", REFUSED, () -> x.bare(1, 2));
        dueSlots("bare", (a, to) -> x.bare(a, to));
    }

    private void promise32Move() {
        fresh(-125, 2, 0, -9);
        dueNumber("to the left", x.move(0, 3, 2), 2, -125, 5);
        dueNumber("to the right", x.move(0, -1, 2), 2, -125, 1);
        dueNumber("to the end", x.move(0, -2, 2), 2, -125, 0);
        dueNumber("beyond the end", x.move(0, -5, 2), 2, -125000, 0);
        dueNumber("to the scale 9", x.move(0, 7, 2), 2, -125, 9);
        dueThrow("to the scale 10", REFUSED, () -> x.move(0, 8, 2));
        dueNumber("0 raised by 8", x.move(1, 1, 2), 2, 0, 0);
        dueNumber("0 raised by 17", x.move(1, -8, 2), 2, 0, 0);
        dueThrow("0 raised by 18", REFUSED, () -> x.move(1, -9, 2));
        x.put(1, 15, -9);
        dueNumber("2 digits raised by 16", x.move(1, -7, 2), 2, 150000000000000000L, 0);
        dueThrow("2 digits raised by 17", REFUSED, () -> x.move(1, -8, 2));
        x.put(1, 15, -2);
        dueNumber("to the left, raised all the same", x.move(1, 1, 2), 2, 150, 0);
        for (int n : new int[] {0, -10, 10, Integer.MIN_VALUE, Integer.MAX_VALUE}) {
            dueThrow("move by " + n, WRONG, () -> x.move(0, n, 2));
            dueSlots("move by " + n, (a, to) -> x.move(a, n, to));
        }
        dueSlots("move", (a, to) -> x.move(a, 1, to));
    }

    private void promise33Times() {
        fresh(-125, 2, MOST, -4);
        dueNumber("times 3", x.times(0, 3, 2), 2, -125, -1);
        dueNumber("times -7", x.times(0, -7, 2), 2, -125, 9);
        dueNumber("times 0", x.times(0, 0, 2), 2, -125, 2);
        dueNumber("times 5", x.times(1, 5, 2), 2, MOST, -9);
        dueThrow("to the scale 10", REFUSED, () -> x.times(0, -8, 2));
        dueThrow("to the scale -10", REFUSED, () -> x.times(1, 6, 2));
        for (int exponent : new int[] {-10, 10, Integer.MIN_VALUE, Integer.MAX_VALUE}) {
            dueThrow("times " + exponent, WRONG, () -> x.times(0, exponent, 2));
        }
        dueSlots("times", (a, to) -> x.times(a, 1, to));
        dueSlots("times 10", (a, to) -> x.times(a, 10, to));
    }

    private void promise34Undo() {
        fresh();
        for (int call = 1; call <= 10; call++) {
            x.put(call % 3, call, 1);
        }
        Check.type(x, "text");
        for (int call = 10; call >= 3; call--) {
            due("undo() of call " + call, x.undo(), call % 3);
            long held = call < 4 ? 0 : call - 3;
            dueNumber("undo() of call " + call, x.precision(call % 3), call % 3, call == 3 ? 0 : held, call == 3 ? 0 : 1);
        }
        dueThrow("undo() of a forgotten one", NoSuchElementException.class, () -> x.undo());
        due("the text stays", Check.textOf(x), "text");
        dueUndoOfEach();
    }

    /** Each call that lets a slot become a number is kept, also where it becomes the same. */
    private void dueUndoOfEach() {
        Object[][] acts = {
            {"put", (Supplier<?>) () -> x.put(7, 5, 1)}, {"copy", (Supplier<?>) () -> x.copy(0, 7)},
            {"sum", (Supplier<?>) () -> x.sum(0, 1, 7)}, {"difference", (Supplier<?>) () -> x.difference(0, 1, 7)},
            {"product", (Supplier<?>) () -> x.product(0, 1, 7)}, {"power", (Supplier<?>) () -> x.power(0, 2, 7)},
            {"turn", (Supplier<?>) () -> x.turn(0, 7)}, {"size", (Supplier<?>) () -> x.size(0, 7)},
            {"least", (Supplier<?>) () -> x.least(0, 1, 7)}, {"greatest", (Supplier<?>) () -> x.greatest(0, 1, 7)},
            {"rescale", (Supplier<?>) () -> x.rescale(0, 1, 'd', 7)}, {"quotient", (Supplier<?>) () -> x.quotient(0, 1, 1, 'd', 7)},
            {"exactQuotient", (Supplier<?>) () -> x.exactQuotient(0, 1, 7)}, {"wholeQuotient", (Supplier<?>) () -> x.wholeQuotient(0, 1, 7)},
            {"remainder", (Supplier<?>) () -> x.remainder(0, 1, 7)}, {"round", (Supplier<?>) () -> x.round(0, 1, 'd', 7)},
            {"unit", (Supplier<?>) () -> x.unit(0, 7)}, {"bare", (Supplier<?>) () -> x.bare(0, 7)},
            {"move", (Supplier<?>) () -> x.move(0, 1, 7)}, {"times", (Supplier<?>) () -> x.times(0, 1, 7)},
            {"read", (Supplier<?>) () -> {
                Check.type(x, "1.5");
                return x.read(7);
            }}
        };
        for (Object[] act : acts) {
            fresh(-125, 2, 5, 0);
            x.put(7, 77, 7);
            String state = Check.stateOf(x);
            ((Supplier<?>) act[1]).get();
            due("undo() of " + act[0], x.undo(), 7);
            due("undo() of " + act[0] + ": the state", Check.stateOf(x), state);
            ((Supplier<?>) act[1]).get();
            ((Supplier<?>) act[1]).get();
            due("undo() of the second " + act[0], x.undo(), 7);
            due("undo() of the first " + act[0], x.undo(), 7);
            due("undo() of both " + act[0], Check.stateOf(x), state);
        }
    }

    private void promises35And36Shares() {
        fresh();
        due("zeroShare() at first", x.zeroShare(), 1.0f);
        due("meanScale() at first", x.meanScale(), 0.0);
        x.put(0, 5, 3);
        x.put(1, 0, 4);
        x.put(2, -5, -9);
        due("zeroShare()", x.zeroShare(), 0.75f);
        due("meanScale()", x.meanScale(), -0.25);
        for (int slot = 0; slot < 8; slot++) {
            x.put(slot, 1, 9);
        }
        due("zeroShare() of none", x.zeroShare(), 0.0f);
        due("meanScale() of the greatest", x.meanScale(), 9.0);
        x.put(7, 0, 8);
        due("zeroShare() of the last one", x.zeroShare(), 0.125f);
        due("meanScale() of the last one", x.meanScale(), 8.875);
    }

    private void promise37Checksum() {
        fresh();
        long sum = 7;
        for (int slot = 0; slot < 8; slot++) {
            sum = 31 * (31 * sum) + '0';
        }
        due("checksum() at first", x.checksum(), 31 * sum);
        x.put(0, -15, 1);
        x.put(7, 2, -1);
        Check.type(x, "a~");
        sum = 31 * 7 + 1;
        for (char sign : "-1.5".toCharArray()) {
            sum = 31 * sum + sign;
        }
        for (int slot = 1; slot < 7; slot++) {
            sum = 31 * (31 * sum) + '0';
        }
        sum = 31 * sum - 1;
        sum = 31 * (31 * sum + '2') + '0';
        sum = 31 * sum + 2;
        sum = 31 * (31 * sum + 'a') + '~';
        due("checksum()", x.checksum(), sum);
        due("checksum() changes nothing", x.checksum(), sum);
        fresh();
        for (int call = 0; call < 20; call++) {
            x.put(0, 0, 0);
        }
        sum = 7;
        for (int slot = 0; slot < 8; slot++) {
            sum = 31 * (31 * sum) + '0';
        }
        due("checksum() with eight kept", x.checksum(), 31 * sum + 8);
    }

    private void promise38IsSound() {
        fresh();
        due("isSound() at first", x.isSound(), true);
        long[][] numbers = {{0, -9}, {0, 9}, {MOST, 9}, {-MOST, -9}, {1, -9}, {-5, 1}, {-15, 1}, {25, 1}, {-2549, 3}, {150, 2},
            {15, 1}, {3, 0}, {7, -2}, {-100000000000000000L, 8}, {12345, 0}, {-5, 9}};
        for (int first = 0; first < numbers.length; first++) {
            fresh();
            for (int slot = 0; slot < 8; slot++) {
                long[] number = numbers[(first + slot) % numbers.length];
                x.put(slot, number[0], (int) number[1]);
            }
            Check.type(x, "text");
            String state = Check.stateOf(x);
            due("isSound() from " + first, x.isSound(), true);
            due("isSound() changes nothing", Check.stateOf(x), state);
            due("isSound() is not kept", x.undo(), 7);
        }
    }
}
