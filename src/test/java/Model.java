import java.math.BigDecimal;
import java.math.BigInteger;
import java.math.MathContext;
import java.math.RoundingMode;
import java.util.ArrayDeque;
import java.util.Arrays;
import java.util.Deque;
import java.util.Map;
import java.util.NoSuchElementException;

/** The document once more, over the JDK's own BigDecimal: what Eightways is compared with. */
final class Model {
    private static final Map<Character, RoundingMode> WAYS = Map.of(
            'u', RoundingMode.UP, 'd', RoundingMode.DOWN, 'c', RoundingMode.CEILING, 'f', RoundingMode.FLOOR,
            'h', RoundingMode.HALF_UP, 'l', RoundingMode.HALF_DOWN, 'e', RoundingMode.HALF_EVEN,
            'n', RoundingMode.UNNECESSARY);

    private record Held(int slot, BigDecimal number) {
    }

    private final BigDecimal[] slots = new BigDecimal[8];
    private final Deque<Held> kept = new ArrayDeque<>();
    private String text = "";

    Model() {
        Arrays.fill(slots, BigDecimal.ZERO);
    }

    int type(char sign) {
        if (sign < 32 || sign > 126) {
            throw new IllegalArgumentException();
        }
        if (text.length() >= 24) {
            throw new IllegalStateException();
        }
        text += sign;
        return text.length();
    }

    int erase() {
        int had = text.length();
        text = "";
        return had;
    }

    char signAt(int place) {
        if (place < 0 || place >= text.length()) {
            throw new IndexOutOfBoundsException();
        }
        return text.charAt(place);
    }

    int tell(int slot) {
        text = at(slot).toPlainString();
        return text.length();
    }

    int read(int slot) {
        at(slot);
        String[] parts = text.split("[eE]", 2);
        boolean tooLong = parts[0].replaceAll("[^0-9]", "").length() > 18;
        if (tooLong || parts.length > 1 && parts[1].length() > 4) {
            throw new UnsupportedOperationException();
        }
        if (!text.matches("[+-]?([0-9]+\\.?[0-9]*|\\.[0-9]+)([eE][+-]?[0-9]+)?")) {
            throw new NumberFormatException();
        }
        int count = become(slot, new BigDecimal(text));
        text = "";
        return count;
    }

    int put(int slot, long digits, int scale) {
        at(slot);
        if (!isNear(BigDecimal.valueOf(digits, scale))) {
            throw new IllegalArgumentException();
        }
        return become(slot, BigDecimal.valueOf(digits, scale));
    }

    int copy(int slot, int to) {
        at(to);
        return become(to, at(slot));
    }

    int scale(int slot) {
        return at(slot).scale();
    }

    int precision(int slot) {
        return at(slot).precision();
    }

    int sign(int slot) {
        return at(slot).signum();
    }

    int compare(int slot, int other) {
        return at(slot).compareTo(at(other));
    }

    boolean isEqual(int slot, int other) {
        return at(slot).equals(at(other));
    }

    long whole(int slot) {
        BigInteger whole = at(slot).toBigIntegerExact();
        if (whole.bitLength() > 63) {
            throw new ArithmeticException();
        }
        return whole.longValue();
    }

    int digits(int slot) {
        text = at(slot).unscaledValue().toString();
        return text.length();
    }

    int sum(int a, int b, int to) {
        needAll(a, b, to);
        needRaise(a, at(b).scale() - at(a).scale());
        needRaise(b, at(a).scale() - at(b).scale());
        return become(to, at(a).add(at(b)));
    }

    int difference(int a, int b, int to) {
        needAll(a, b, to);
        needRaise(a, at(b).scale() - at(a).scale());
        needRaise(b, at(a).scale() - at(b).scale());
        return become(to, at(a).subtract(at(b)));
    }

    int product(int a, int b, int to) {
        needAll(a, b, to);
        need(at(a).precision() + at(b).precision() <= 18);
        return become(to, at(a).multiply(at(b)));
    }

    int power(int a, int n, int to) {
        needAll(a, a, to);
        needArgument(n >= 0 && n <= 9);
        need(n * at(a).precision() <= 18);
        return become(to, at(a).pow(n));
    }

    int turn(int a, int to) {
        needAll(a, a, to);
        return become(to, at(a).negate());
    }

    int size(int a, int to) {
        needAll(a, a, to);
        return become(to, at(a).abs());
    }

    int least(int a, int b, int to) {
        needAll(a, b, to);
        return become(to, at(a).min(at(b)));
    }

    int greatest(int a, int b, int to) {
        needAll(a, b, to);
        return become(to, at(a).max(at(b)));
    }

    int rescale(int a, int scale, char way, int to) {
        needAll(a, a, to);
        needArgument(scale >= -9 && scale <= 9 && WAYS.containsKey(way));
        needRaise(a, scale - at(a).scale());
        return become(to, at(a).setScale(scale, WAYS.get(way)));
    }

    int quotient(int a, int b, int scale, char way, int to) {
        needAll(a, b, to);
        needArgument(scale >= -9 && scale <= 9 && WAYS.containsKey(way));
        int more = scale + at(b).scale() - at(a).scale();
        needRaise(a, more);
        needRaise(b, -more);
        return become(to, at(a).divide(at(b), scale, WAYS.get(way)));
    }

    int exactQuotient(int a, int b, int to) {
        needAll(a, b, to);
        need(roomFor(a, b) <= 18);
        return become(to, at(a).divide(at(b)));
    }

    int wholeQuotient(int a, int b, int to) {
        needAll(a, b, to);
        need(roomFor(a, b) + Math.abs(at(a).scale() - at(b).scale()) + 2 <= 18);
        return become(to, at(a).divideToIntegralValue(at(b)));
    }

    int remainder(int a, int b, int to) {
        needAll(a, b, to);
        need(roomFor(a, b) + Math.abs(at(a).scale() - at(b).scale()) + 2 <= 18);
        return become(to, at(a).remainder(at(b)));
    }

    int round(int a, int digits, char way, int to) {
        needAll(a, a, to);
        needArgument(digits >= 0 && digits <= 18 && WAYS.containsKey(way));
        int lost = digits == 0 ? 0 : Math.max(0, at(a).precision() - digits);
        need(at(a).scale() - lost >= -9);
        return become(to, at(a).round(new MathContext(digits, WAYS.get(way))));
    }

    int unit(int a, int to) {
        needAll(a, a, to);
        return become(to, at(a).ulp());
    }

    int bare(int a, int to) {
        needAll(a, a, to);
        return become(to, at(a).stripTrailingZeros());
    }

    int move(int a, int n, int to) {
        needAll(a, a, to);
        needArgument(n >= -9 && n <= 9 && n != 0);
        needRaise(a, -(at(a).scale() + n));
        return become(to, at(a).movePointLeft(n));
    }

    int times(int a, int exponent, int to) {
        needAll(a, a, to);
        needArgument(exponent >= -9 && exponent <= 9);
        return become(to, at(a).scaleByPowerOfTen(exponent));
    }

    int undo() {
        if (kept.isEmpty()) {
            throw new NoSuchElementException();
        }
        Held held = kept.removeLast();
        slots[held.slot()] = held.number();
        return held.slot();
    }

    float zeroShare() {
        float zeros = Arrays.stream(slots).filter(slot -> slot.signum() == 0).count();
        return zeros / 8;
    }

    double meanScale() {
        double scales = Arrays.stream(slots).mapToInt(BigDecimal::scale).sum();
        return scales / 8;
    }

    long checksum() {
        long sum = 7;
        for (BigDecimal slot : slots) {
            sum = added(31 * sum + slot.scale(), slot.toPlainString());
        }
        return added(31 * sum + kept.size(), text);
    }

    boolean isSound() {
        return true;
    }

    private static long added(long start, String signs) {
        long sum = start;
        for (char sign : signs.toCharArray()) {
            sum = 31 * sum + sign;
        }
        return sum;
    }

    private BigDecimal at(int slot) {
        if (slot < 0 || slot > 7) {
            throw new IndexOutOfBoundsException();
        }
        return slots[slot];
    }

    private int become(int slot, BigDecimal number) {
        need(isNear(number));
        kept.addLast(new Held(slot, slots[slot]));
        if (kept.size() > 8) {
            kept.removeFirst();
        }
        slots[slot] = number;
        return number.precision();
    }

    private static boolean isNear(BigDecimal number) {
        return Math.abs(number.scale()) <= 9 && number.precision() <= 18;
    }

    private int roomFor(int a, int b) {
        int precision = at(b).precision();
        return Math.max(at(a).precision(), precision) + (int) Math.ceil(10.0 * precision / 3.0);
    }

    private void needAll(int a, int b, int to) {
        at(a);
        at(b);
        at(to);
    }

    private void needRaise(int slot, int exponent) {
        need(exponent <= 0 || at(slot).precision() + exponent <= 18);
    }

    private static void needArgument(boolean fits) {
        if (!fits) {
            throw new IllegalArgumentException();
        }
    }

    private static void need(boolean allowed) {
        if (!allowed) {
            throw new UnsupportedOperationException();
        }
    }
}
