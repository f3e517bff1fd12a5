import java.util.function.Supplier;

/** Runs of calls that a fixed row of numbers picks, each answered by Eightways and by the Model. */
public final class ModelTest {
    private static final int RUNS = 5000;
    /** With what a round may still call beyond these, an object is called at most 512 times. */
    private static final int CALLS = 480;
    private static final char[] WAYS = {'u', 'd', 'c', 'f', 'h', 'l', 'e', 'n'};
    private static final String[] TEXTS = {
        "0", "-0", "+0.00", "1", "-1.5", ".5", "5.", "+.5e1", "1E9", "1e-9", "1E10", "1e-10", "1E+0009", "1e+009", "12E-3",
        "", ".", "+", "-.", "1e", "1e+", "e5", ".e5", "1.2.3", "1 ", " 1", "1e5e", "1e1.5", "--1", "+-1", "0x1F", "1_0",
        "123456789012345678", "1234567890123456789", "-0.12345678901234567", "0000000000000000001", "1.2345678901234567890",
        "123456789012345678e-9", "1e12345", "x1e12345", "9.99E-7", "1e9999", "1e-999", "1E-0", "1e+0", "1d", "1f", "e12345"
    };

    private final Check check = new Check("ModelTest");
    private long seed;
    private int calls;
    private Eightways x;
    private Model model;

    public static void main(String[] args) {
        ModelTest test = new ModelTest();
        for (int run = 0; run < RUNS; run++) {
            test.run(run);
        }
        test.check.end();
    }

    private void run(int run) {
        seed = run;
        calls = 0;
        x = new Eightways();
        model = new Model();
        while (calls < CALLS) {
            String where = "run " + run + ", call " + calls + ": ";
            if (next(4) == 0) {
                putNumber(where);
            } else {
                callOne(where, next(40));
            }
            same(where + "checksum()", () -> x.checksum(), () -> model.checksum());
        }
        check.due("run " + run + ": isSound()", x.isSound(), true);
        check.due("run " + run + ": checksum() then", x.checksum(), model.checksum());
    }

    private int next(int bound) {
        seed = seed * 6364136223846793005L + 1442695040888963407L;
        return (int) ((seed >>> 33) % bound);
    }

    private int slot() {
        return next(60) == 0 ? next(2) * 9 - 1 : next(8);
    }

    private int scale() {
        return next(3) > 0 ? next(6) - 2 : next(21) - 10;
    }

    private char way() {
        return next(40) == 0 ? (char) next(300) : WAYS[next(8)];
    }

    private long number() {
        long digits = 0;
        switch (next(6)) {
            case 0:
                digits = next(30);
                break;
            case 1:
                digits = (long) Math.pow(10, next(19)) - next(2);
                break;
            case 2:
                digits = next(400) * 5L;
                break;
            case 3:
                digits = (1L << next(63)) * (next(3) == 0 ? 5 : 1);
                break;
            case 4:
                digits = next(2000) * (long) Math.pow(10, next(9));
                break;
            default:
                int length = next(20);
                for (int digit = 0; digit < length; digit++) {
                    digits = digits * 10 + next(10);
                }
        }
        return next(2) == 0 ? digits : -digits;
    }

    private void same(String what, Supplier<?> own, Supplier<?> other) {
        calls++;
        check.due(what, Check.answerOf(own), Check.answerOf(other));
    }

    private void putNumber(String where) {
        int slot = slot();
        long digits = number();
        int scale = scale();
        String what = where + "put(" + slot + ", " + digits + ", " + scale + ")";
        same(what, () -> x.put(slot, digits, scale), () -> model.put(slot, digits, scale));
    }

    private void typeText(String where) {
        if (next(4) > 0) {
            same(where + "erase()", () -> x.erase(), () -> model.erase());
        }
        for (char sign : TEXTS[next(TEXTS.length)].toCharArray()) {
            same(where + "type(" + sign + ")", () -> x.type(sign), () -> model.type(sign));
        }
    }

    private void callOne(String where, int call) {
        int a = slot();
        int b = slot();
        int to = slot();
        int scale = scale();
        char way = way();
        int n = next(13) - 2;
        int digits = next(21) - 1;
        String one = where + "call " + call + " of slot " + a;
        String both = one + " and " + b + ", n " + n + ", way " + way + ", scale " + scale + ", digits " + digits;
        switch (call) {
            case 0: same(one, () -> x.type((char) n), () -> model.type((char) n)); break;
            case 1: same(one, () -> x.erase(), () -> model.erase()); break;
            case 2: same(one, () -> x.signAt(n), () -> model.signAt(n)); break;
            case 3: same(one, () -> x.tell(a), () -> model.tell(a)); break;
            case 4: same(one, () -> x.read(a), () -> model.read(a)); break;
            case 5: same(one, () -> x.copy(a, to), () -> model.copy(a, to)); break;
            case 6: same(one, () -> x.scale(a), () -> model.scale(a)); break;
            case 7: same(one, () -> x.precision(a), () -> model.precision(a)); break;
            case 8: same(one, () -> x.sign(a), () -> model.sign(a)); break;
            case 9: same(both, () -> x.compare(a, b), () -> model.compare(a, b)); break;
            case 10: same(both, () -> x.isEqual(a, b), () -> model.isEqual(a, b)); break;
            case 11: same(one, () -> x.whole(a), () -> model.whole(a)); break;
            case 12: same(one, () -> x.digits(a), () -> model.digits(a)); break;
            case 13: same(both, () -> x.sum(a, b, to), () -> model.sum(a, b, to)); break;
            case 14: same(both, () -> x.difference(a, b, to), () -> model.difference(a, b, to)); break;
            case 15: same(both, () -> x.product(a, b, to), () -> model.product(a, b, to)); break;
            case 16: same(both, () -> x.power(a, n, to), () -> model.power(a, n, to)); break;
            case 17: same(one, () -> x.turn(a, to), () -> model.turn(a, to)); break;
            case 18: same(one, () -> x.size(a, to), () -> model.size(a, to)); break;
            case 19: same(both, () -> x.least(a, b, to), () -> model.least(a, b, to)); break;
            case 20: same(both, () -> x.greatest(a, b, to), () -> model.greatest(a, b, to)); break;
            case 21: same(both, () -> x.rescale(a, scale, way, to), () -> model.rescale(a, scale, way, to)); break;
            case 22: same(both, () -> x.quotient(a, b, scale, way, to), () -> model.quotient(a, b, scale, way, to)); break;
            case 23: same(both, () -> x.exactQuotient(a, b, to), () -> model.exactQuotient(a, b, to)); break;
            case 24: same(both, () -> x.wholeQuotient(a, b, to), () -> model.wholeQuotient(a, b, to)); break;
            case 25: same(both, () -> x.remainder(a, b, to), () -> model.remainder(a, b, to)); break;
            case 26: same(both, () -> x.round(a, digits, way, to), () -> model.round(a, digits, way, to)); break;
            case 27: same(one, () -> x.unit(a, to), () -> model.unit(a, to)); break;
            case 28: same(one, () -> x.bare(a, to), () -> model.bare(a, to)); break;
            case 29: same(both, () -> x.move(a, n, to), () -> model.move(a, n, to)); break;
            case 30: same(both, () -> x.times(a, n, to), () -> model.times(a, n, to)); break;
            case 31: same(one, () -> x.undo(), () -> model.undo()); break;
            case 32: same(one, () -> x.zeroShare(), () -> model.zeroShare()); break;
            case 33: same(one, () -> x.meanScale(), () -> model.meanScale()); break;
            case 34: same(one, () -> x.isSound(), () -> model.isSound()); break;
            case 35: same(both, () -> x.move(a, scale, to), () -> model.move(a, scale, to)); break;
            case 36: same(both, () -> x.times(a, scale, to), () -> model.times(a, scale, to)); break;
            default: typeText(where); break;
        }
    }
}
