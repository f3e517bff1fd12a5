import java.util.List;
import java.util.function.Supplier;

/** What tests share that go through the document sentence by sentence. */
abstract class Sentences {
    static final long MOST = 999999999999999999L;
    static final int[] NO_SLOTS = {-1, 8, Integer.MIN_VALUE, Integer.MAX_VALUE};
    static final char[] WAYS = {'u', 'd', 'c', 'f', 'h', 'l', 'e', 'n'};
    static final Class<?> NO_SLOT = IndexOutOfBoundsException.class;
    static final Class<?> WRONG = IllegalArgumentException.class;
    static final Class<?> REFUSED = UnsupportedOperationException.class;
    static final Class<?> UNDEFINED = ArithmeticException.class;
    static final Class<?> NO_NUMBER = NumberFormatException.class;

    final Check check = new Check(getClass().getSimpleName());
    final Document document = new Document();
    Eightways x = new Eightways();
    private String section = "";
    private String quoted = "";

    void section(String name) {
        section = name;
    }

    /** What is looked at from here on would not be so if these words of the section were broken. */
    void sentence(String words) {
        quoted = words;
        due(document.quote(section, words), true);
        fresh();
    }

    /** A new object, with numbers in its first slots: the digits and the scale of each. */
    void fresh(long... numbers) {
        x = new Eightways();
        for (int slot = 0; 2 * slot + 1 < numbers.length; slot++) {
            x.put(slot, numbers[2 * slot], (int) numbers[2 * slot + 1]);
        }
    }

    void due(Object got, Object want) {
        check.due(section + ", \"" + quoted + "\", line " + lineOfTest(), got, want);
    }

    private static int lineOfTest() {
        return StackWalker.getInstance().walk(frames -> frames
                .filter(frame -> frame.getClassName().endsWith("Test"))
                .findFirst().map(StackWalker.StackFrame::getLineNumber).orElse(0));
    }

    /** The call throws just this exception; what can be seen without changing it stays as it was. */
    void dueThrow(Class<?> want, Supplier<?> call) {
        long sum = x.checksum();
        due(Check.answerOf(call), "throws." + want.getSimpleName());
        due(x.checksum(), sum);
    }

    /** The slot holds these digits by this scale, and the call answered their precision. The text is lost. */
    void dueNumber(int answer, int slot, long digits, int scale) {
        due(numberOf(slot), digits + "/" + scale);
        due(answer, Long.toString(Math.abs(digits)).length());
    }

    /** The digits and the scale. The text is lost. */
    String numberOf(int slot) {
        x.digits(slot);
        return Check.textOf(x) + "/" + x.scale(slot);
    }

    void dueTold(int slot, String want) {
        due(x.tell(slot), want.length());
        due(Check.textOf(x), want);
    }

    void type(String text) {
        x.erase();
        Check.type(x, text);
    }

    static boolean isRefused(Supplier<?> call) {
        return Check.answerOf(call).equals("throws.UnsupportedOperationException");
    }

    static boolean isDone(Supplier<?> call) {
        return !Check.answerOf(call).startsWith("throws.");
    }

    /** All words of these sections must have been quoted. */
    void end(String... sections) {
        check.due("how many sections the document has", document.countSections(), 1 + 7 + 38);
        check.due("what of the document is not quoted", document.leftOf(sections), List.of());
        check.end();
    }
}
