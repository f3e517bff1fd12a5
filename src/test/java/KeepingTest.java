import java.util.NoSuchElementException;
import java.util.function.Function;
import java.util.function.Supplier;

/** What the document tells of keeping and of exceptions, clause by clause. */
public final class KeepingTest extends Sentences {
    private static final Class<?> FULL = IllegalStateException.class;
    private static final Class<?> NONE = NoSuchElementException.class;

    public static void main(String[] args) {
        KeepingTest test = new KeepingTest();
        test.whatIsKept();
        test.howOftenIsKept();
        test.nothingIsChanged();
        test.documentedFirst();
        test.end("Keeping", "Exceptions");
    }

    // ---- Keeping

    private void whatIsKept() {
        section("Keeping");
        sentence("Each call that lets a slot become a number keeps what it held");
        dueKept(() -> x.put(7, 5, 1));
        dueKept(() -> x.copy(0, 7));
        dueKept(() -> x.sum(0, 1, 7));
        dueKept(() -> x.difference(0, 1, 7));
        dueKept(() -> x.product(0, 1, 7));
        dueKept(() -> x.power(0, 2, 7));
        dueKept(() -> x.turn(0, 7));
        dueKept(() -> x.size(0, 7));
        dueKept(() -> x.least(0, 1, 7));
        dueKept(() -> x.greatest(0, 1, 7));
        dueKept(() -> x.rescale(0, 1, 'd', 7));
        dueKept(() -> x.quotient(0, 1, 1, 'd', 7));
        dueKept(() -> x.exactQuotient(0, 1, 7));
        dueKept(() -> x.wholeQuotient(0, 1, 7));
        dueKept(() -> x.remainder(0, 1, 7));
        dueKept(() -> x.round(0, 1, 'd', 7));
        dueKept(() -> x.round(0, 0, 'd', 7));
        dueKept(() -> x.unit(0, 7));
        dueKept(() -> x.bare(0, 7));
        dueKept(() -> x.move(0, 1, 7));
        dueKept(() -> x.times(0, 1, 7));
        dueKept(() -> {
            type("1.5");
            return x.read(7);
        });
        dueNotKept();

        sentence("also if it becomes the same");
        fresh();
        for (int slot = 0; slot < 4; slot++) {
            x.put(slot, 0, 0);
            x.copy(slot, slot);
        }
        for (int slot = 3; slot >= 0; slot--) {
            due(x.undo(), slot);
            due(x.undo(), slot);
            due(numberOf(slot), "0/0");
        }
        dueThrow(NONE, () -> x.undo());
        fresh(5, 1);
        x.size(0, 0);
        x.rescale(0, 1, 'n', 0);
        x.round(0, 1, 'n', 0);
        x.bare(0, 0);
        x.times(0, 0, 0);
        x.least(0, 0, 0);
        x.power(0, 1, 0);
        for (int count = 1; count <= 7; count++) {
            due(x.undo(), 0);
            due(numberOf(0), "5/1");
        }
        due(x.undo(), 0);
        due(numberOf(0), "0/0");
    }

    /** The slot 7 holds again what it held, ahead of one such call and ahead of two. */
    private void dueKept(Supplier<?> call) {
        fresh(-125, 2, 5, 0);
        x.put(7, 77, 7);
        call.get();
        due(x.undo(), 7);
        due(numberOf(7), "77/7");
        call.get();
        String once = numberOf(7);
        call.get();
        due(x.undo(), 7);
        due(numberOf(7), once);
        due(x.undo(), 7);
        due(numberOf(7), "77/7");
        due(x.undo(), 7);
        due(numberOf(7), "0/0");
    }

    private void dueNotKept() {
        fresh(-125, 2);
        type("5");
        x.signAt(0);
        x.tell(0);
        x.digits(0);
        x.scale(0);
        x.precision(0);
        x.sign(0);
        x.compare(0, 1);
        x.isEqual(0, 1);
        x.whole(1);
        x.zeroShare();
        x.meanScale();
        x.checksum();
        x.isSound();
        x.erase();
        due(x.undo(), 0);
        dueThrow(NONE, () -> x.undo());
    }

    private void howOftenIsKept() {
        sentence("at most eight times, the oldest one being forgotten.");
        for (int calls = 0; calls <= 20; calls++) {
            fresh();
            for (int call = 1; call <= calls; call++) {
                x.put(call % 3, call, 1);
            }
            dueUndone(calls, Math.min(calls, 8));
        }
        for (int undone = 1; undone <= 8; undone++) {
            for (int more = 1; more <= 9; more++) {
                fresh();
                for (int call = 1; call <= 11; call++) {
                    x.put(7, call, 0);
                }
                for (int count = 1; count <= undone; count++) {
                    due(x.undo(), 7);
                    due(x.whole(7), 11L - count);
                }
                for (int count = 1; count <= more; count++) {
                    x.put(6, count, 0);
                }
                dueUndoneOf(undone, more);
            }
        }
    }

    /** The call n put n into the slot n % 3, by the scale 1. */
    private void dueUndone(int calls, int kept) {
        for (int call = calls; call > calls - kept; call--) {
            due(x.undo(), call % 3);
            due(numberOf(call % 3), call <= 3 && call - 3 <= 0 ? "0/0" : (call - 3) + "/1");
        }
        dueThrow(NONE, () -> x.undo());
    }

    /** Of eight kept calls of the slot 7 some were undone, then more calls of the slot 6 were kept. */
    private void dueUndoneOf(int undone, int more) {
        int kept = Math.min(more, 8);
        for (int count = 1; count <= kept; count++) {
            due(x.undo(), 6);
            due(x.whole(6), (long) (more - count));
        }
        int left = Math.min(8 - undone, 8 - kept);
        for (int count = 1; count <= left; count++) {
            due(x.undo(), 7);
            due(x.whole(7), 11L - undone - count);
        }
        dueThrow(NONE, () -> x.undo());
    }

    // ---- Exceptions

    /** Ten calls, of which eight are kept, and a text. */
    private static Eightways manyKept(String text) {
        Eightways made = new Eightways();
        made.put(7, 1, 0);
        made.put(6, 2, 0);
        made.put(0, MOST, -9);
        made.put(1, 0, 0);
        made.put(2, 25, 1);
        made.put(3, 7, 0);
        made.put(4, 1, -9);
        made.put(5, 1, 9);
        made.put(6, 12, -9);
        made.put(7, 3, 0);
        Check.type(made, text);
        return made;
    }

    /** All that can be seen of an object; what it holds is taken back by that. */
    private static String everythingOf(Eightways seen) {
        StringBuilder all = new StringBuilder().append(Check.textOf(seen)).append(' ').append(seen.checksum());
        for (int call = 0; call <= 8; call++) {
            all.append(' ').append(Check.answerOf(() -> seen.undo())).append(' ').append(seen.checksum());
        }
        return all.toString();
    }

    private void dueUnchanged(Class<?> want, String text, Function<Eightways, ?> call) {
        Eightways touched = manyKept(text);
        due(Check.answerOf(() -> call.apply(touched)), "throws." + want.getSimpleName());
        due(everythingOf(touched), everythingOf(manyKept(text)));
    }

    private void dueUnchanged(Class<?> want, Function<Eightways, ?> call) {
        dueUnchanged(want, "text", call);
    }

    private void nothingIsChanged() {
        section("Exceptions");
        sentence("A method that throws an exception changes nothing.");
        String full = "twenty-four signs are it";
        dueUnchanged(WRONG, y -> y.type((char) 31));
        dueUnchanged(WRONG, y -> y.type((char) 127));
        dueUnchanged(FULL, full, y -> y.type('a'));
        dueUnchanged(NO_SLOT, y -> y.signAt(4));
        dueUnchanged(NO_SLOT, y -> y.tell(8));
        dueUnchanged(NO_SLOT, "1.5", y -> y.read(8));
        dueUnchanged(REFUSED, "1E10", y -> y.read(0));
        dueUnchanged(REFUSED, "1234567890123456789", y -> y.read(0));
        dueUnchanged(NO_NUMBER, "1.5e", y -> y.read(0));
        dueUnchanged(NO_SLOT, y -> y.put(8, 1, 0));
        dueUnchanged(WRONG, y -> y.put(0, 1, 10));
        dueUnchanged(NO_SLOT, y -> y.copy(8, 0));
        dueUnchanged(NO_SLOT, y -> y.copy(0, 8));
        dueUnchanged(NO_SLOT, y -> y.scale(8));
        dueUnchanged(NO_SLOT, y -> y.precision(8));
        dueUnchanged(NO_SLOT, y -> y.sign(8));
        dueUnchanged(NO_SLOT, y -> y.compare(0, 8));
        dueUnchanged(NO_SLOT, y -> y.isEqual(0, 8));
        dueUnchanged(NO_SLOT, y -> y.whole(8));
        dueUnchanged(UNDEFINED, y -> y.whole(2));
        dueUnchanged(UNDEFINED, y -> y.whole(0));
        dueUnchanged(NO_SLOT, y -> y.digits(8));
        actsChangeNothing();
        divisionsChangeNothing();
        actsOnOneChangeNothing();
        fresh(5, 1);
        type("text");
        x.undo();
        dueThrow(NONE, () -> x.undo());
        dueThrow(NONE, () -> x.undo());
        due(Check.textOf(x), "text");
        x.put(3, 5, 0);
        due(x.undo(), 3);
        dueThrow(NONE, () -> x.undo());
    }

    private void actsChangeNothing() {
        dueUnchanged(NO_SLOT, y -> y.sum(2, 3, 8));
        dueUnchanged(REFUSED, y -> y.sum(0, 0, 7));
        dueUnchanged(REFUSED, y -> y.sum(4, 5, 7));
        dueUnchanged(NO_SLOT, y -> y.difference(2, 3, 8));
        dueUnchanged(REFUSED, y -> y.difference(4, 5, 4));
        dueUnchanged(NO_SLOT, y -> y.product(2, 3, 8));
        dueUnchanged(REFUSED, y -> y.product(0, 1, 0));
        dueUnchanged(REFUSED, y -> y.product(4, 4, 7));
        dueUnchanged(NO_SLOT, y -> y.power(2, 2, 8));
        dueUnchanged(WRONG, y -> y.power(2, 10, 7));
        dueUnchanged(REFUSED, y -> y.power(0, 2, 7));
        dueUnchanged(REFUSED, y -> y.power(5, 2, 5));
        dueUnchanged(NO_SLOT, y -> y.turn(2, 8));
        dueUnchanged(NO_SLOT, y -> y.size(2, 8));
        dueUnchanged(NO_SLOT, y -> y.least(2, 3, 8));
        dueUnchanged(NO_SLOT, y -> y.greatest(2, 3, 8));
    }

    private void divisionsChangeNothing() {
        dueUnchanged(NO_SLOT, y -> y.rescale(2, 0, 'd', 8));
        dueUnchanged(WRONG, y -> y.rescale(2, 0, 'x', 7));
        dueUnchanged(WRONG, y -> y.rescale(2, 10, 'd', 7));
        dueUnchanged(REFUSED, y -> y.rescale(0, 0, 'd', 7));
        dueUnchanged(UNDEFINED, y -> y.rescale(2, 0, 'n', 2));
        dueUnchanged(NO_SLOT, y -> y.quotient(2, 3, 0, 'd', 8));
        dueUnchanged(WRONG, y -> y.quotient(2, 3, 0, 'x', 7));
        dueUnchanged(WRONG, y -> y.quotient(2, 3, -10, 'd', 7));
        dueUnchanged(REFUSED, y -> y.quotient(0, 3, 0, 'd', 7));
        dueUnchanged(UNDEFINED, y -> y.quotient(2, 1, 0, 'd', 2));
        dueUnchanged(UNDEFINED, y -> y.quotient(2, 3, 0, 'n', 2));
        dueUnchanged(NO_SLOT, y -> y.exactQuotient(2, 3, 8));
        dueUnchanged(REFUSED, y -> y.exactQuotient(0, 3, 7));
        dueUnchanged(REFUSED, y -> y.exactQuotient(5, 4, 7));
        dueUnchanged(UNDEFINED, y -> y.exactQuotient(2, 1, 7));
        dueUnchanged(UNDEFINED, y -> y.exactQuotient(2, 3, 2));
        dueUnchanged(NO_SLOT, y -> y.wholeQuotient(2, 3, 8));
        dueUnchanged(REFUSED, y -> y.wholeQuotient(0, 3, 7));
        dueUnchanged(UNDEFINED, y -> y.wholeQuotient(2, 1, 2));
        dueUnchanged(NO_SLOT, y -> y.remainder(2, 3, 8));
        dueUnchanged(REFUSED, y -> y.remainder(0, 3, 7));
        dueUnchanged(UNDEFINED, y -> y.remainder(2, 1, 2));
    }

    private void actsOnOneChangeNothing() {
        dueUnchanged(NO_SLOT, y -> y.round(2, 1, 'd', 8));
        dueUnchanged(WRONG, y -> y.round(2, 19, 'd', 7));
        dueUnchanged(WRONG, y -> y.round(2, 1, 'x', 7));
        dueUnchanged(REFUSED, y -> y.round(6, 1, 'd', 7));
        dueUnchanged(UNDEFINED, y -> y.round(2, 1, 'n', 2));
        dueUnchanged(NO_SLOT, y -> y.unit(2, 8));
        dueUnchanged(NO_SLOT, y -> y.bare(2, 8));
        dueUnchanged(NO_SLOT, y -> y.move(2, 1, 8));
        dueUnchanged(WRONG, y -> y.move(2, 0, 7));
        dueUnchanged(REFUSED, y -> y.move(5, 1, 7));
        dueUnchanged(REFUSED, y -> y.move(0, -1, 0));
        dueUnchanged(NO_SLOT, y -> y.times(2, 1, 8));
        dueUnchanged(WRONG, y -> y.times(2, 10, 7));
        dueUnchanged(REFUSED, y -> y.times(5, -1, 5));
        Function<Eightways, ?> bareOfTen = y -> y.bare(0, 7);
        Eightways touched = new Eightways();
        touched.put(0, 10, -9);
        due(Check.answerOf(() -> bareOfTen.apply(touched)), "throws." + REFUSED.getSimpleName());
        due(touched.undo(), 0);
        due(Check.answerOf(() -> touched.undo()), "throws." + NONE.getSimpleName());
    }

    private void dueFirst(Class<?> want, Function<Eightways, ?> call) {
        x = manyKept("text");
        dueThrow(want, () -> call.apply(x));
    }

    private void documentedFirst() {
        sentence("If several exceptions apply, the one that is documented first is thrown.");
        x = manyKept("twenty-four signs are it");
        dueThrow(WRONG, () -> x.type((char) 31));
        dueThrow(WRONG, () -> x.type((char) 127));
        for (String text : new String[] {"1E10", "text", "", "x1234567890123456789"}) {
            x = manyKept(text);
            dueThrow(NO_SLOT, () -> x.read(8));
            dueThrow(NO_SLOT, () -> x.read(-1));
        }
        for (String text : new String[] {"x1234567890123456789", "1234567890123456789e", "1e12345", "E12345", "xEabcde"}) {
            x = manyKept(text);
            dueThrow(REFUSED, () -> x.read(7));
        }
        dueFirst(NO_SLOT, y -> y.put(8, 1, 10));
        dueFirst(NO_SLOT, y -> y.put(-1, MOST + 1, 0));
        dueFirst(NO_SLOT, y -> y.sum(0, 0, 8));
        dueFirst(NO_SLOT, y -> y.sum(4, 5, -1));
        dueFirst(NO_SLOT, y -> y.difference(4, 5, 8));
        dueFirst(NO_SLOT, y -> y.product(0, 1, 8));
        dueFirst(NO_SLOT, y -> y.power(8, 10, 7));
        dueFirst(NO_SLOT, y -> y.power(2, -1, 8));
        dueFirst(NO_SLOT, y -> y.power(2, 10, 8));
        dueFirst(NO_SLOT, y -> y.power(0, 2, 8));
        dueFirst(WRONG, y -> y.power(0, 10, 7));
        dueFirst(WRONG, y -> y.power(5, 10, 7));
        documentedFirstOfRounding();
        documentedFirstOfDivisions();
        dueFirst(NO_SLOT, y -> y.bare(8, 8));
        dueFirst(NO_SLOT, y -> y.move(8, 0, 7));
        dueFirst(NO_SLOT, y -> y.move(2, 10, 8));
        dueFirst(NO_SLOT, y -> y.move(0, -1, 8));
        dueFirst(WRONG, y -> y.move(0, -10, 7));
        dueFirst(WRONG, y -> y.move(5, 10, 7));
        dueFirst(NO_SLOT, y -> y.times(8, 10, 7));
        dueFirst(NO_SLOT, y -> y.times(2, -10, 8));
        dueFirst(NO_SLOT, y -> y.times(5, -1, 8));
        dueFirst(WRONG, y -> y.times(5, -10, 7));
        dueFirst(WRONG, y -> y.times(4, 10, 7));
        x = new Eightways();
        x.put(0, 10, -9);
        dueThrow(NO_SLOT, () -> x.bare(0, 8));
    }

    private void documentedFirstOfRounding() {
        dueFirst(NO_SLOT, y -> y.rescale(8, 0, 'x', 7));
        dueFirst(NO_SLOT, y -> y.rescale(2, 10, 'd', 8));
        dueFirst(NO_SLOT, y -> y.rescale(2, 0, 'x', 8));
        dueFirst(NO_SLOT, y -> y.rescale(0, 0, 'd', 8));
        dueFirst(NO_SLOT, y -> y.rescale(2, 0, 'n', 8));
        dueFirst(WRONG, y -> y.rescale(0, 0, 'x', 7));
        dueFirst(WRONG, y -> y.rescale(0, 10, 'd', 7));
        dueFirst(WRONG, y -> y.rescale(2, -10, 'n', 7));
        dueFirst(NO_SLOT, y -> y.round(8, 19, 'd', 7));
        dueFirst(NO_SLOT, y -> y.round(2, 1, 'x', 8));
        dueFirst(NO_SLOT, y -> y.round(2, 19, 'd', 8));
        dueFirst(NO_SLOT, y -> y.round(6, 1, 'd', 8));
        dueFirst(NO_SLOT, y -> y.round(2, 1, 'n', 8));
        dueFirst(WRONG, y -> y.round(6, 1, 'x', 7));
        dueFirst(WRONG, y -> y.round(6, -1, 'n', 7));
        dueFirst(REFUSED, y -> y.round(6, 1, 'n', 7));
    }

    private void documentedFirstOfDivisions() {
        dueFirst(NO_SLOT, y -> y.quotient(8, 1, 0, 'x', 7));
        dueFirst(NO_SLOT, y -> y.quotient(2, 8, 10, 'd', 7));
        dueFirst(NO_SLOT, y -> y.quotient(2, 3, 10, 'd', 8));
        dueFirst(NO_SLOT, y -> y.quotient(2, 3, 0, 'x', 8));
        dueFirst(NO_SLOT, y -> y.quotient(0, 3, 0, 'd', 8));
        dueFirst(NO_SLOT, y -> y.quotient(2, 1, 0, 'd', 8));
        dueFirst(WRONG, y -> y.quotient(0, 3, 0, 'x', 7));
        dueFirst(WRONG, y -> y.quotient(2, 1, 0, 'x', 7));
        dueFirst(WRONG, y -> y.quotient(2, 1, 10, 'n', 7));
        dueFirst(REFUSED, y -> y.quotient(0, 1, 0, 'd', 7));
        dueFirst(REFUSED, y -> y.quotient(5, 1, -9, 'd', 7));
        dueFirst(REFUSED, y -> y.quotient(5, 7, -9, 'n', 7));
        dueFirst(NO_SLOT, y -> y.exactQuotient(0, 1, 8));
        dueFirst(NO_SLOT, y -> y.exactQuotient(2, 1, 8));
        dueFirst(REFUSED, y -> y.exactQuotient(0, 1, 7));
        dueFirst(REFUSED, y -> y.exactQuotient(7, 0, 7));
        dueFirst(NO_SLOT, y -> y.wholeQuotient(0, 1, 8));
        dueFirst(NO_SLOT, y -> y.wholeQuotient(2, 1, 8));
        dueFirst(REFUSED, y -> y.wholeQuotient(0, 1, 7));
        dueFirst(NO_SLOT, y -> y.remainder(0, 1, 8));
        dueFirst(NO_SLOT, y -> y.remainder(2, 1, 8));
        dueFirst(REFUSED, y -> y.remainder(0, 1, 7));
    }
}
