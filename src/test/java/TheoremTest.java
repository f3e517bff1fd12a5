import java.math.BigDecimal;
import java.math.RoundingMode;
import java.util.NoSuchElementException;
import java.util.function.Function;

/** "What it is" and the theorem of the document, clause by clause, for numbers at the edges. */
public final class TheoremTest extends Sentences {
    private static final char[] STEADY_WAYS = {'u', 'd', 'c', 'f'};
    /** Numbers at the edges: zeros, ties, what lies next to them, powers of ten and what lies next to them, the longest. */
    private static final long[][] NUMBERS = {
        {0, 0}, {0, 9}, {0, -9}, {1, 0}, {-1, 0}, {1, 9}, {-1, 9}, {1, -9}, {5, 1}, {-5, 1}, {15, 1}, {-15, 1}, {25, 1},
        {-25, 1}, {249, 2}, {250, 2}, {251, 2}, {-249, 2}, {-250, 2}, {-251, 2}, {499, 3}, {501, 3}, {-1499, 3}, {-1500, 3},
        {9999, 3}, {-9999, 3}, {995, 2}, {1000, 2}, {-1200, 2}, {7, -2}, {-12, -1}, {123456789, 4}, {MOST, 9}, {-MOST, 9},
        {MOST, 0}, {-MOST, -9}, {500000000000000000L, 9}, {499999999999999999L, 9}, {-500000000000000001L, 9}
    };

    public static void main(String[] args) {
        TheoremTest test = new TheoremTest();
        test.whatItIs();
        test.neighbours();
        test.steps();
        test.division();
        test.equality();
        test.end("What it is", "Theorem");
    }

    private static BigDecimal valueOf(long... number) {
        return BigDecimal.valueOf(number[0], (int) number[1]);
    }

    /** The number that a slot holds. The text is lost. */
    private BigDecimal at(int slot) {
        int scale = x.scale(slot);
        x.digits(slot);
        return new BigDecimal(Check.textOf(x)).scaleByPowerOfTen(-scale);
    }

    // ---- What it is

    private void whatItIs() {
        section("What it is");
        sentence("Decimal numbers rounded in eight ways, over java.math.BigDecimal, java.math.MathContext and "
                + "java.math.RoundingMode of the JDK; what is told here is what these promise.");
        RoundingMode[] modes = {RoundingMode.UP, RoundingMode.DOWN, RoundingMode.CEILING, RoundingMode.FLOOR,
            RoundingMode.HALF_UP, RoundingMode.HALF_DOWN, RoundingMode.HALF_EVEN};
        for (long[] number : NUMBERS) {
            for (int way = 0; way < modes.length; way++) {
                fresh(number);
                char sign = WAYS[way];
                BigDecimal want = valueOf(number).setScale(-1, modes[way]);
                if (!isRefused(() -> x.rescale(0, -1, sign, 1))) {
                    due(at(1), want);
                }
            }
        }

        sentence("An object is used for at most 512 calls after it has been made; what later calls answer is free.");
        for (int call = 1; call <= 500; call++) {
            due(x.put(call % 8, call, call % 10), Integer.toString(call).length());
        }
        for (int call = 501; call <= 508; call++) {
            due(x.undo(), (1001 - call) % 8);
        }
        dueThrow(NoSuchElementException.class, () -> x.undo()); // with two checksums: calls 509 to 511
        due(x.isSound(), true); // call 512
    }

    // ---- Theorem

    private void neighbours() {
        section("Theorem");
        sentence("Of a number and a scale, let F be the greatest multiple of the scale's unit that is not above the number, "
                + "and C the least one that is not below it: each way answers just the one of F and C that is told of it, "
                + "both being the number itself if that is a multiple");
        for (long[] number : NUMBERS) {
            for (int scale = -9; scale <= 9; scale++) {
                dueRescaled(number, scale);
            }
        }

        sentence("the same holds of quotients");
        long[][] divisors = {{1, 0}, {2, 0}, {-2, 0}, {3, 0}, {-4, 1}, {7, -1}, {8, 0}, {100, 2}, {MOST, 9}, {-999, 0}};
        for (long[] number : NUMBERS) {
            for (long[] divisor : divisors) {
                for (int scale = -2; scale <= 3; scale++) {
                    dueDivided(number, divisor, scale);
                }
            }
        }

        sentence("and of the first so many digits.");
        for (long[] number : NUMBERS) {
            for (int digits = 1; digits <= 18; digits++) {
                dueRounded(number, digits);
            }
        }
    }

    private void dueTold(Told told, int scale, Function<Character, Integer> act) {
        for (char way : WAYS) {
            String answer = Check.answerOf(() -> act.apply(way));
            if (way == 'n' && !told.isMultiple()) {
                due(answer, "throws.ArithmeticException");
            } else if (!answer.equals("throws.UnsupportedOperationException")) {
                due(numberOf(2), told.by(way) + "/" + scale);
            }
        }
    }

    private void dueRescaled(long[] number, int scale) {
        fresh(number);
        int more = scale - (int) number[1];
        due(isRefused(() -> x.rescale(0, scale, 'd', 2)), more > 0 && x.precision(0) + more > 18);
        dueTold(Told.of(valueOf(number), BigDecimal.ONE, scale), scale, way -> x.rescale(0, scale, way, 2));
    }

    private void dueDivided(long[] number, long[] divisor, int scale) {
        fresh(number[0], number[1], divisor[0], divisor[1]);
        if (!isRefused(() -> x.quotient(0, 1, scale, 'd', 2))) {
            Told told = Told.of(valueOf(number), valueOf(divisor), scale);
            dueTold(told, scale, way -> x.quotient(0, 1, scale, way, 2));
        }
    }

    /** The scale is that of the digits that stay; a digit more by being rounded, a 0, is no other value. */
    private void dueRounded(long[] number, int digits) {
        fresh(number);
        int lost = Math.max(0, x.precision(0) - digits);
        int scale = (int) number[1] - lost;
        if (lost == 0 || scale < -9) {
            return;
        }
        Told told = Told.of(valueOf(number), BigDecimal.ONE, scale);
        for (char way : WAYS) {
            String answer = Check.answerOf(() -> x.round(0, digits, way, 2));
            if (way == 'n' && !told.isMultiple()) {
                due(answer, "throws.ArithmeticException");
            } else if (!answer.equals("throws.UnsupportedOperationException")) {
                due(at(2).compareTo(new BigDecimal(told.by(way), scale)), 0);
                due(x.precision(2) <= digits, true);
            }
        }
    }

    private void steps() {
        sentence("So each way keeps the order");
        for (char way : WAYS) {
            for (int step = -300; step < 300; step++) {
                fresh(step, 2, step + 1, 2);
                for (int scale = 1; scale >= -1; scale--) {
                    int to = scale;
                    if (isDone(() -> x.rescale(0, to, way, 2)) && isDone(() -> x.rescale(1, to, way, 3))) {
                        due(x.compare(2, 3) <= 0, true);
                    }
                }
            }
        }

        sentence("rounding by 'd', 'u', 'c' or 'f' in two steps, to a scale and then to a lesser one, is rounding at once");
        for (long[] number : NUMBERS) {
            for (char way : STEADY_WAYS) {
                fresh(number);
                for (int middle = 2; middle >= -1; middle--) {
                    int first = middle;
                    if (isDone(() -> x.rescale(0, first, way, 1))) {
                        x.rescale(1, middle - 1, way, 2);
                        x.rescale(1, middle - 7, way, 3);
                        dueSameAtOnce(middle - 1, way, 2);
                        dueSameAtOnce(middle - 7, way, 3);
                    }
                }
            }
        }

        sentence("by 'f' a number with its sign turned is the turned one by 'c'");
        for (long[] number : NUMBERS) {
            dueTurned(number, 'f', 'c');
            dueTurned(number, 'c', 'f');
        }

        sentence("by the others but these the turned one by the same way");
        for (long[] number : NUMBERS) {
            for (char way : new char[] {'u', 'd', 'h', 'l', 'e', 'n'}) {
                dueTurned(number, way, way);
            }
        }

        sentence("and what is rounded by one of 'h', 'l' and 'e' is off by at most half a unit");
        for (long[] number : NUMBERS) {
            for (char way : new char[] {'h', 'l', 'e'}) {
                dueOff(number, way, new BigDecimal("0.5"));
            }
        }

        sentence("by any by less than one.");
        for (long[] number : NUMBERS) {
            for (char way : WAYS) {
                dueOff(number, way, new BigDecimal("0.999999999999999999"));
            }
        }
    }

    private void dueSameAtOnce(int scale, char way, int slot) {
        x.rescale(0, scale, way, 4);
        due(x.isEqual(slot, 4), true);
    }

    private void dueTurned(long[] number, char way, char turnedWay) {
        fresh(number);
        x.turn(0, 1);
        for (int scale = -9; scale <= 9; scale++) {
            int to = scale;
            String turned = Check.answerOf(() -> x.rescale(1, to, way, 2));
            due(Check.answerOf(() -> x.rescale(0, to, turnedWay, 3)), turned);
            if (!turned.startsWith("throws.")) {
                x.turn(3, 3);
                due(x.isEqual(2, 3), true);
            }
        }
    }

    private void dueOff(long[] number, char way, BigDecimal most) {
        fresh(number);
        for (int scale = -9; scale <= 9; scale++) {
            int to = scale;
            if (isDone(() -> x.rescale(0, to, way, 1))) {
                BigDecimal off = at(1).subtract(valueOf(number)).abs();
                due(off.compareTo(most.scaleByPowerOfTen(-scale)) <= 0, true);
            }
        }
    }

    private void division() {
        long[] values = {0, 1, -1, 2, 3, -3, 7, -7, 10, 12, 25, -99, 100, 101, -120, 999, 1000, -4321, 999999};
        sentence("A number is the whole quotient by another one, times that, and the remainder");
        dueForAllDivided(values, () -> {
            x.product(2, 1, 4);
            x.sum(4, 3, 4);
            due(x.compare(4, 0), 0);
        });

        sentence("which has the sign of the number, or is 0");
        dueForAllDivided(values, () -> due(x.sign(3) == x.sign(0) || x.sign(3) == 0, true));

        sentence("and is less in size than the other one.");
        dueForAllDivided(values, () -> {
            x.size(3, 4);
            x.size(1, 5);
            due(x.compare(4, 5), -1);
        });
    }

    /** The slots 0 to 3 hold a number, another one, the whole quotient of both and the remainder. */
    private void dueForAllDivided(long[] values, Runnable look) {
        int looked = 0;
        for (long value : values) {
            for (long by : values) {
                for (int apart = -4; apart <= 4; apart++) {
                    fresh(value, apart, by, 0);
                    if (isDone(() -> x.wholeQuotient(0, 1, 2)) && isDone(() -> x.remainder(0, 1, 3))) {
                        look.run();
                        looked++;
                    }
                }
            }
        }
        due(looked > 1000, true);
    }

    private void equality() {
        sentence("Two numbers compare alike just if, without zeros at their ends, they are equal");
        dueForPairs(() -> {
            boolean alike = x.compare(0, 1) == 0;
            if (isDone(() -> x.bare(0, 2)) && isDone(() -> x.bare(1, 3))) {
                due(alike, x.isEqual(2, 3));
            }
        });

        sentence("they are equal just if they have the same plain text and the same scale");
        dueForPairs(() -> {
            x.tell(0);
            String text = Check.textOf(x);
            x.tell(1);
            due(x.isEqual(0, 1), text.equals(Check.textOf(x)) && x.scale(0) == x.scale(1));
        });

        sentence("a plain text, if it is not refused, is read as a number that compares alike");
        for (long[] number : NUMBERS) {
            fresh(number);
            x.tell(0);
            due(isRefused(() -> x.read(1)), number[1] < 0 && number[0] != 0 && x.precision(0) - number[1] > 18);
            if (isDone(() -> x.read(1)) || x.erase() == 0) {
                due(x.compare(0, 1), 0);
            }
        }

        sentence("and is equal if its scale is not below 0");
        for (long[] number : NUMBERS) {
            if (number[1] >= 0) {
                fresh(number);
                x.tell(0);
                x.read(1);
                due(x.isEqual(0, 1), true);
            }
        }

        sentence("times a power of ten, where neither is refused, a number comes back by the power with its sign turned.");
        for (long[] number : NUMBERS) {
            for (int exponent = -9; exponent <= 9; exponent++) {
                fresh(number);
                int power = exponent;
                due(isRefused(() -> x.times(0, power, 1)), Math.abs(number[1] - exponent) > 9);
                if (isDone(() -> x.times(0, power, 1))) {
                    x.times(1, -exponent, 2);
                    due(x.isEqual(0, 2), true);
                }
            }
        }
    }

    private void dueForPairs(Runnable look) {
        long[][] more = {{0, -1}, {0, 1}, {10, 1}, {100, 2}, {10, 0}, {1, -1}, {1500, 3}, {1501, 3}, {-150, 2}};
        for (long[] number : NUMBERS) {
            for (long[] other : NUMBERS) {
                fresh(number[0], number[1], other[0], other[1]);
                look.run();
            }
            for (long[] other : more) {
                fresh(number[0], number[1], other[0], other[1]);
                look.run();
            }
        }
        for (long[] number : more) {
            for (long[] other : more) {
                fresh(number[0], number[1], other[0], other[1]);
                look.run();
            }
        }
    }
}
