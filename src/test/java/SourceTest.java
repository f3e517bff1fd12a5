import java.io.IOException;
import java.lang.reflect.Method;
import java.nio.file.Files;
import java.nio.file.Path;
import java.util.ArrayList;
import java.util.List;
import java.util.Map;
import java.util.Set;
import java.util.TreeMap;
import java.util.TreeSet;
import java.util.regex.Matcher;
import java.util.regex.Pattern;

/**
 * What of ../shared/LANGUAGE.md is seen in the bodies of the methods: how long they are, how deep they call one another,
 * and that an index and a divisor are looked at ahead of their use. It reads the source as it is laid out there: a method's
 * body begins with a line that ends in " {", and ends with a "}" as far to the right as that line.
 */
public final class SourceTest {
    private static final Path CLASS = Path.of("src/main/java/Eightways.java");
    private static final Pattern HEAD = Pattern.compile(
            "( +)(?:(?:public|private|static|final) )*(?!else|return|new)[\\w\\[\\]]+ (\\w+)\\(([^()]*)\\)( throws [\\w, ]+)? \\{");
    private static final Pattern CALL = Pattern.compile("(?<!new )(?<!\\w)((?:Math\\.|Long\\.|Integer\\.)?\\w+)\\(");
    private static final Pattern INDEXED = Pattern.compile("\\w+\\[([^\\[\\]]+)\\]");
    private static final Pattern DIVISOR = Pattern.compile(" [/%]=? ((?:\\(\\w+\\) )?\\w+)(\\(?)");
    private static final Set<String> NO_CALLS = Set.of("if", "for", "while", "switch", "return");
    /** It answers no 0, as it is looked at there. */
    private static final String NEVER_0 = "powerOfTen";
    private static final int MOST_LINES = 60;
    private static final int MOST_DEEP = 8;
    private static final int MOST_PARAMETERS = 7;

    private final Check check = new Check("SourceTest");
    /** The bodies of the methods, by name; those of one name in several classes are looked at as one. */
    private final Map<String, String> bodies = new TreeMap<>();
    private final Map<String, Integer> depths = new TreeMap<>();
    private int indexes = 0;
    private int divisors = 0;

    public static void main(String[] args) throws IOException {
        SourceTest test = new SourceTest();
        test.split(Files.readString(CLASS));
        test.deepCalls();
        for (String name : test.bodies.keySet()) {
            test.indexes(name);
            test.divisors(name);
        }
        test.check.due("indexes are found", test.indexes > 10, true);
        test.check.due("divisors are found", test.divisors > 10, true);
        test.check.end();
    }

    private static String withoutWords(String source) {
        return source.replaceAll("(?s)/\\*.*?\\*/", "").replaceAll("//[^\\n]*", "").replaceAll("\"[^\"\\n]*\"", "\"\"");
    }

    private void split(String source) {
        String name = "";
        String end = "";
        List<String> body = new ArrayList<>();
        for (String line : withoutWords(source).split("\n")) {
            Matcher head = HEAD.matcher(line);
            if (name.isEmpty() && head.matches()) {
                name = head.group(2);
                end = head.group(1) + "}";
                body.clear();
                check.due(name + " has few parameters", head.group(3).split(",").length <= MOST_PARAMETERS, true);
            } else if (!name.isEmpty() && line.equals(end)) {
                check.due(name + " is short", body.size() <= MOST_LINES, true);
                bodies.merge(name, String.join("\n", body) + "\n", String::concat);
                name = "";
            } else if (!name.isEmpty()) {
                body.add(line);
            }
        }
        for (Method method : Eightways.class.getDeclaredMethods()) {
            check.due(method.getName() + " is found", bodies.containsKey(method.getName()), true);
        }
    }

    private void deepCalls() {
        for (String name : bodies.keySet()) {
            check.due(name + " goes at most so deep", depthOf(name, new TreeSet<>()) <= MOST_DEEP, true);
        }
    }

    /** How many calls stand open at once at most, with this one, and with those of the library. */
    private int depthOf(String name, Set<String> open) {
        if (depths.containsKey(name)) {
            return depths.get(name);
        }
        if (!bodies.containsKey(name)) {
            return 1;
        }
        if (!open.add(name)) {
            check.due(name + " calls itself", true, false);
            return 1;
        }
        int deepest = 0;
        Matcher call = CALL.matcher(bodies.get(name));
        while (call.find()) {
            if (!NO_CALLS.contains(call.group(1))) {
                deepest = Math.max(deepest, depthOf(call.group(1), open));
            }
        }
        open.remove(name);
        depths.put(name, deepest + 1);
        return deepest + 1;
    }

    private void indexes(String name) {
        Matcher indexed = INDEXED.matcher(bodies.get(name));
        while (indexed.find()) {
            String index = indexed.group(1);
            String ahead = bodies.get(name).substring(0, indexed.start());
            boolean isTested = ahead.contains("isSlot(" + index + ")")
                    || Pattern.compile("\\b" + Pattern.quote(index) + " (<|>=) (\\w+\\.)?(length|MOST_KEPT)\\b").matcher(ahead).find();
            check.due(name + " looks at the index of " + indexed.group() + " ahead of its use", isTested, true);
            indexes++;
        }
    }

    private void divisors(String name) {
        Matcher divided = DIVISOR.matcher(bodies.get(name));
        while (divided.find()) {
            String divisor = divided.group(1);
            String ahead = bodies.get(name).substring(0, divided.start());
            boolean isTested = divided.group(2).isEmpty()
                    ? divisor.matches("[1-9][0-9]*|\\(\\w+\\) SLOTS") || ahead.contains("if (" + divisor + " == 0) {")
                    : divisor.equals(NEVER_0);
            check.due(name + " looks at the divisor of" + divided.group() + " ahead of its use", isTested, true);
            divisors++;
        }
    }
}
