import java.math.BigDecimal;
import java.math.BigInteger;

/** What the document tells of the ways, word by word, over whole numbers of any size. */
final class Told {
    private final BigInteger floor;
    private final BigInteger ceiling;
    /** How what lies above the floor compares with half a unit. */
    private final int half;
    private final boolean negative;

    /** The value is a fraction, counted in units; the number below is not 0. */
    Told(BigInteger above, BigInteger below) {
        BigInteger over = below.signum() < 0 ? above.negate() : above;
        BigInteger under = below.abs();
        BigInteger rest = over.mod(under);
        floor = over.subtract(rest).divide(under);
        ceiling = rest.signum() == 0 ? floor : floor.add(BigInteger.ONE);
        half = rest.shiftLeft(1).compareTo(under);
        negative = over.signum() < 0;
    }

    /** The number, or the quotient of both, counted in units of the scale. */
    static Told of(BigDecimal number, BigDecimal by, int scale) {
        BigInteger above = number.unscaledValue();
        BigInteger below = by.unscaledValue();
        int more = scale + by.scale() - number.scale();
        BigInteger power = BigInteger.TEN.pow(Math.abs(more));
        return more >= 0 ? new Told(above.multiply(power), below) : new Told(above, below.multiply(power));
    }

    boolean isMultiple() {
        return floor.equals(ceiling);
    }

    /** Asked of 'n' only where it is a multiple. */
    BigInteger by(char way) {
        BigInteger farther = negative ? floor : ceiling;
        BigInteger nearerTo0 = negative ? ceiling : floor;
        BigInteger nearer = half < 0 ? floor : ceiling;
        switch (way) {
            case 'u':
                return farther;
            case 'd':
                return nearerTo0;
            case 'c':
                return ceiling;
            case 'f':
                return floor;
            case 'h':
                return half == 0 ? farther : nearer;
            case 'l':
                return half == 0 ? nearerTo0 : nearer;
            case 'e':
                return half != 0 ? nearer : floor.testBit(0) ? ceiling : floor;
            default:
                return floor;
        }
    }
}
