import java.io.IOException;
import java.net.URL;
import java.net.URLClassLoader;
import java.nio.file.Files;
import java.nio.file.Path;
import java.util.stream.Stream;
import javax.tools.ToolProvider;

/**
 * isSound() answers false where a part of what it checks is not so. No call can bring that about, so that copies of the
 * class are broken on purpose here, each in one place, and asked.
 */
public final class SoundTest {
    private static final Path CLASS = Path.of("src/main/java/Eightways.java");

    private static final long MOST = 999999999999999999L;
    /** Words that stand once in the source. */
    private static final String FARTHER = "if (takesFarther(";
    private static final String REST = " - digits * b.digits, greater)";
    private static final String CUT = "return becomeRatio(a.digits, powerOfTen(-more)";

    private final Check check = new Check("SoundTest");
    private final Path folder;
    private final String source;
    private int copies = 0;

    private SoundTest(Path folder) throws IOException {
        this.folder = folder;
        source = Files.readString(CLASS);
    }

    public static void main(String[] args) throws Exception {
        Path folder = Files.createTempDirectory("sound");
        SoundTest test = new SoundTest(folder);
        try {
            test.run();
        } finally {
            remove(folder);
        }
        test.check.end();
    }

    private static void remove(Path folder) throws IOException {
        try (Stream<Path> files = Files.walk(folder)) {
            for (Path file : (Iterable<Path>) files.sorted((one, other) -> other.compareTo(one))::iterator) {
                Files.delete(file);
            }
        }
    }

    private void run() throws Exception {
        breakWays();
        breakStepsAndTurns();
        breakTexts();
        breakDivisions();
        dueUnsound("equal ones", "digits == other.digits && scale == other.scale", "scale == other.scale", 7, 0, 2, 0);
        dueUnsound("alike ones without zeros at their ends", "dropZeros(MOST_DIGITS)", "dropZeros(1)", 100, 2, 1, 0);
        dueUnsound("alike ones", "side * comparedInSize(other)", "0", 3, 0, 2, 0);
        due("what is not broken", ask(source, 100, 2, 1, 0), true);
    }

    private void breakWays() throws Exception {
        String part = "each way between its neighbours: ";
        dueUnsound(part + "'e' of like ones", "half == 0 && odd", "half == 0 && !odd", 15, 1);
        dueUnsound(part + "'c'", "return !negative;", "return negative;", 15, 1);
        dueUnsound(part + "'l' of like ones", "return half > 0;", "return half >= 0;", 15, 1);
        dueUnsound(part + "'n'", "if (way == 'n') {", "if (way == 'n' && above < 0) {", 15, 1);
        dueUnsound(part + "at the scale -1", FARTHER, "if (above != 1234 && takesFarther(", 1234, 0);
        dueUnsound(part + "at the scale 2", FARTHER, "if (!(above == 1235 && below == 10) && takesFarther(", 1235, 3);
        dueUnsound(part + "a multiple that keeps its scale", CUT,
                "return Math.abs(a.digits) == 120 && newScale == 0 ? becomeRounded(a, 0, way) : " + CUT.substring(7), 120, 1);
        dueUnsound(part + "refused though nothing is raised", "exponent <= MOST_DIGITS", "exponent < MOST_DIGITS", MOST, 0);
    }

    private void breakStepsAndTurns() throws Exception {
        dueUnsound("in two steps, by the scale 2", FARTHER, "if (above != 124 && takesFarther(", 1234, 3);
        dueUnsound("in two steps, by the scale 1", FARTHER, "if (above != 13 && takesFarther(", 121, 2);
        dueUnsound("in two steps, by the scale 0", FARTHER, "if (above != 13 && takesFarther(", 121, 1);
        dueUnsound("turned numbers", FARTHER, "if (above != -25 && takesFarther(", 25, 1);
        dueUnsound("turned numbers by 'n'", "if (way == 'n') {", "if (way == 'n' && above > 0) {", 25, 1);
    }

    private void breakTexts() throws Exception {
        String part = "texts that are read back: ";
        dueUnsound(part + "the scale", "behind - exponent", "behind / 2 - exponent", 125, 2);
        dueUnsound(part + "the scale 0", "-read : read, behind - exponent", "-read : 10 * read, behind + 1 - exponent", 125, 0);
        dueUnsound(part + "the sign", "? -read : read", "? read : read", -125, 0);
        dueUnsound(part + "the point", "place == behind &&", "place == 2 * behind &&", 125, 1);
    }

    private void breakDivisions() throws Exception {
        dueUnsound("whole quotients, cut toward 0", "b.raised(preferred), 0, 'd')", "b.raised(preferred), 0, 'u')", 7, 0, 2, 0);
        dueUnsound("whole quotients, times the divisor", "dropZeros(-preferred);", "become(digits + 1, scale);", 7, -1, 2, 0);
        dueUnsound("remainders", REST, " + digits * b.digits, greater)", 7, 0, 2, 0);
        String less = " - digits * b.digits - (a.digits == 7 && b.digits == 2 ? 1 : 0), greater)";
        dueUnsound("remainders, less than is left", REST, less, 7, 0, 2, 0);
        dueUnsound("remainders by the slot 0", REST, less, 2, 0, 7, 0);
        dueUnsound("remainders of the last slot", REST, less, 2, 0, 1, 0, 1, 0, 1, 0, 1, 0, 1, 0, 1, 0, 7, 0);
        dueUnsound("remainders that are less in size", "long cut = above / below;",
                "long cut = above / below - (above == 8 && below == 2 ? 1 : 0);", 8, 0, 2, 0);
    }

    private void due(String what, Object got, Object want) {
        check.due(what, got, want);
    }

    private void dueUnsound(String what, String words, String broken, long... numbers) throws Exception {
        int place = source.indexOf(words);
        due(what + ": how often what is broken stands in the source", place >= 0 && source.indexOf(words, place + 1) < 0, true);
        due(what, ask(source.replace(words, broken), numbers), false);
    }

    /** What isSound() answers of a copy with these numbers in its first slots: the digits and the scale of each. */
    private Object ask(String copy, long... numbers) throws Exception {
        Path place = Files.createDirectory(folder.resolve("copy" + copies++));
        Path file = Files.writeString(place.resolve("Eightways.java"), copy);
        int failed = ToolProvider.getSystemJavaCompiler().run(null, null, null, "-d", place.toString(), file.toString());
        due("the copy is compiled", failed, 0);
        URL[] places = {place.toUri().toURL()};
        try (URLClassLoader loader = new URLClassLoader(places, ClassLoader.getPlatformClassLoader())) {
            Class<?> type = loader.loadClass("Eightways");
            Object x = type.getConstructor().newInstance();
            for (int slot = 0; 2 * slot + 1 < numbers.length; slot++) {
                int scale = (int) numbers[2 * slot + 1];
                type.getMethod("put", int.class, long.class, int.class).invoke(x, slot, numbers[2 * slot], scale);
            }
            return type.getMethod("isSound").invoke(x);
        }
    }
}
