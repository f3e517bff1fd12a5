import java.util.Objects;
import java.util.function.Supplier;

/** What the tests share: counts answers that are not the due ones, and prints them. */
final class Check {
    private final String name;
    private int calls = 0;
    private int wrong = 0;

    Check(String name) {
        this.name = name;
    }

    void due(String what, Object got, Object want) {
        calls++;
        if (!Objects.equals(got, want)) {
            wrong++;
            System.out.println(name + ": " + what + " answered " + got + ", due is " + want);
        }
    }

    /** The call throws just this exception, and changes nothing. */
    void dueThrow(String what, Class<?> want, Eightways x, Supplier<?> call) {
        String state = stateOf(x);
        due(what, answerOf(call), "throws." + want.getSimpleName());
        due(what + ": the state then", stateOf(x), state);
    }

    static String answerOf(Supplier<?> call) {
        try {
            return String.valueOf(call.get());
        } catch (RuntimeException e) {
            return "throws." + e.getClass().getSimpleName();
        }
    }

    /** All that can be seen of an object without changing it. */
    static String stateOf(Eightways x) {
        StringBuilder state = new StringBuilder().append(x.checksum());
        for (int slot = 0; slot < 8; slot++) {
            state.append(' ').append(x.scale(slot)).append('/').append(x.precision(slot)).append('/').append(x.sign(slot));
        }
        return state.append(' ').append(textOf(x)).toString();
    }

    static String textOf(Eightways x) {
        StringBuilder text = new StringBuilder();
        try {
            for (int place = 0; place < 100; place++) {
                text.append(x.signAt(place));
            }
        } catch (IndexOutOfBoundsException e) {
            return text.toString();
        }
        return text.append("...").toString();
    }

    static void type(Eightways x, String text) {
        for (char sign : text.toCharArray()) {
            x.type(sign);
        }
    }

    /** Ends the program, with exit code 1 if an answer was not the due one. */
    void end() {
        System.out.println(name + ": " + calls + " answers looked at, " + wrong + " not as due");
        if (wrong != 0 || calls == 0) {
            System.exit(1);
        }
    }
}
