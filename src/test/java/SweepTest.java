/** Every way, and every quotient, for rows of numbers around the edges, each answered by Eightways and by the Model. */
public final class SweepTest {
    private static final char[] WAYS = {'u', 'd', 'c', 'f', 'h', 'l', 'e', 'n'};
    private static final long[] NUMBERS = {
        0, 1, -1, 2, 3, -3, 4, 5, -5, 6, 7, 8, 9, -9, 10, 11, -12, 14, 15, -15, 16, 20, 24, 25, -25, 26, 32, 35, 40, 45, 49,
        50, 51, 55, 64, 75, 95, 99, -99, 100, 101, 125, -128, 149, 150, 250, 256, 450, 499, 500, 501, 512, -512, 550, 625,
        949, 950, 999, -999, 1000, 1024, 3125, 4096, -8192, 9999, -9999, 10000, 12345, 15625, 99995, 99999, 100000, 700000,
        999999, -1000000, 12345678, 99999999, 123456789, 999999999, 1000000000, 99999999999L, 100000000000L, 314159265358L,
        999999999999L, 10000000000000L, -99999999999999L, 100000000000000L, 500000000000000000L, 499999999999999999L,
        922337203685477580L, 922337203685477581L, -922337203685477580L, -922337203685477581L, 9223372036854775L,
        -9223372036854776L, 100000000000000000L, 999999999999999999L, -999999999999999999L, 999999999999999995L
    };

    private static final int[] SECOND_SCALES = {-9, -1, 0, 2, 9};

    private final Check check = new Check("SweepTest");
    private Eightways x = new Eightways();
    private Model model = new Model();

    public static void main(String[] args) {
        SweepTest test = new SweepTest();
        for (long number : NUMBERS) {
            for (int scale = -9; scale <= 9; scale++) {
                test.sweepOne(number, scale);
                for (long by : NUMBERS) {
                    test.sweepBoth(number, scale, by);
                }
            }
        }
        test.check.end();
    }

    /** New ones each time, as an object is promised for 512 calls alone. */
    private void start(long number, int scale, long by, int byScale) {
        x = new Eightways();
        model = new Model();
        same("put", x.put(0, number, scale), model.put(0, number, scale));
        same("put", x.put(1, by, byScale), model.put(1, by, byScale));
    }

    private void same(String what, Object got, Object want) {
        check.due(what, got, want);
    }

    private void sameState(String what) {
        check.due(what + ": checksum()", x.checksum(), model.checksum());
    }

    private void sweepOne(long number, int scale) {
        String numberText = number + " of scale " + scale;
        for (int to = -9; to <= 9; to++) {
            int newScale = to;
            start(number, scale, 0, 0);
            for (char way : WAYS) {
                String what = numberText + " rescaled to " + to + " by " + way;
                same(what, Check.answerOf(() -> x.rescale(0, newScale, way, 2)), Check.answerOf(() -> model.rescale(0, newScale, way, 2)));
                int digits = to + 9;
                what = numberText + " rounded to " + digits + " digits by " + way;
                same(what, Check.answerOf(() -> x.round(0, digits, way, 3)), Check.answerOf(() -> model.round(0, digits, way, 3)));
                sameState(what);
            }
            String what = numberText + " by " + to;
            same(what + " moved", Check.answerOf(() -> x.move(0, newScale, 2)), Check.answerOf(() -> model.move(0, newScale, 2)));
            sameState(what + " moved");
            same(what + " times", Check.answerOf(() -> x.times(0, newScale, 2)), Check.answerOf(() -> model.times(0, newScale, 2)));
            same(what + " power", Check.answerOf(() -> x.power(0, newScale, 3)), Check.answerOf(() -> model.power(0, newScale, 3)));
            sameState(what);
        }
        start(number, scale, 0, 0);
        same(numberText + " whole", Check.answerOf(() -> x.whole(0)), Check.answerOf(() -> model.whole(0)));
        same(numberText + " bare", Check.answerOf(() -> x.bare(0, 1)), Check.answerOf(() -> model.bare(0, 1)));
        same(numberText + " told", x.tell(0), model.tell(0));
        sameState(numberText + " told");
        same(numberText + " read", Check.answerOf(() -> x.read(2)), Check.answerOf(() -> model.read(2)));
        same(numberText + " sound", x.isSound(), true);
        sameState(numberText + " sound");
    }

    private void sweepBoth(long number, int scale, long by) {
        for (int byScale : SECOND_SCALES) {
            start(number, scale, by, byScale);
            String what = number + " of scale " + scale + " and " + by + " of scale " + byScale;
            same(what + " exact", Check.answerOf(() -> x.exactQuotient(0, 1, 2)), Check.answerOf(() -> model.exactQuotient(0, 1, 2)));
            same(what + " whole", Check.answerOf(() -> x.wholeQuotient(0, 1, 3)), Check.answerOf(() -> model.wholeQuotient(0, 1, 3)));
            same(what + " rest", Check.answerOf(() -> x.remainder(0, 1, 4)), Check.answerOf(() -> model.remainder(0, 1, 4)));
            same(what + " compared", x.compare(0, 1), model.compare(0, 1));
            same(what + " added", Check.answerOf(() -> x.sum(0, 1, 5)), Check.answerOf(() -> model.sum(0, 1, 5)));
            same(what + " less", Check.answerOf(() -> x.difference(0, 1, 6)), Check.answerOf(() -> model.difference(0, 1, 6)));
            same(what + " multiplied", Check.answerOf(() -> x.product(0, 1, 7)), Check.answerOf(() -> model.product(0, 1, 7)));
            sameState(what);
            char way = WAYS[(int) Math.floorMod(number + by + scale, 8L)];
            for (int to = -9; to <= 9; to += 2) {
                int newScale = to;
                String quotient = what + " divided to " + to + " by " + way;
                same(quotient, Check.answerOf(() -> x.quotient(0, 1, newScale, way, 2)), Check.answerOf(() -> model.quotient(0, 1, newScale, way, 2)));
            }
            sameState(what + " divided");
            same(what + ": isSound()", x.isSound(), true);
        }
    }
}
