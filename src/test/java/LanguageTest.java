import java.io.IOException;
import java.lang.reflect.Field;
import java.lang.reflect.Method;
import java.lang.reflect.Modifier;
import java.nio.file.Files;
import java.nio.file.Path;
import java.util.ArrayList;
import java.util.Arrays;
import java.util.List;
import java.util.Set;
import java.util.TreeSet;
import java.util.regex.Matcher;
import java.util.regex.Pattern;
import java.util.stream.Collectors;

/** The face is the document's, and the class keeps to what of ../shared/LANGUAGE.md can be looked at by a program. */
public final class LanguageTest {
    private static final Path CLASS = Path.of("src/main/java/Eightways.java");
    private static final Path DOCUMENT = Path.of("../shared/DOC.md");
    private static final String[] RULED_OUT = {
        "->", "::", "\\btry\\b", "\\bcatch\\b", "\\bfinally\\b", "\\bassert\\b", "\\bsynchronized\\b", "static \\{", "Exact\\(",
        "\" \\+", "\\+ \"", "\\bBigDecimal\\b", "\\bBigInteger\\b", "\\bequals\\(", "\\bhashCode\\(", "\\btoString\\(", "Double\\.",
        "Float\\.", "System\\.(?!arraycopy)", "[^\\x00-\\x7f]", "\\t"
    };

    private final Check check = new Check("LanguageTest");

    public static void main(String[] args) throws IOException {
        LanguageTest test = new LanguageTest();
        test.face();
        test.classesInside();
        test.source();
        test.check.end();
    }

    private static String signatureOf(Method method) {
        String types = Arrays.stream(method.getParameterTypes()).map(Class::getSimpleName).collect(Collectors.joining(", "));
        String thrown = Arrays.stream(method.getExceptionTypes()).map(Class::getSimpleName).collect(Collectors.joining(", "));
        return method.getReturnType().getSimpleName() + " " + method.getName() + "(" + types + ")"
                + (thrown.isEmpty() ? "" : " throws " + thrown);
    }

    private static Set<String> documentedFace() throws IOException {
        Set<String> face = new TreeSet<>();
        Matcher line = Pattern.compile("(?m)^    public (\\w+ \\w+)\\((.*?)\\)( throws .*)?;$").matcher(Files.readString(DOCUMENT));
        while (line.find()) {
            String types = line.group(2).replaceAll("(\\w+) \\w+", "$1");
            face.add(line.group(1) + "(" + types + ")" + (line.group(3) == null ? "" : line.group(3)));
        }
        return face;
    }

    private void face() throws IOException {
        Set<String> face = new TreeSet<>();
        Set<String> names = new TreeSet<>();
        for (Method method : Eightways.class.getDeclaredMethods()) {
            if (!Modifier.isPrivate(method.getModifiers())) {
                check.due(method + " is public", Modifier.isPublic(method.getModifiers()), true);
                check.due(method + " is static", Modifier.isStatic(method.getModifiers()), false);
                face.add(signatureOf(method));
                names.add(method.getName());
            }
        }
        check.due("the face", face, documentedFace());
        check.due("how many methods", face.size(), 37);
        check.due("the constructors", Eightways.class.getDeclaredConstructors().length, 1);
        check.due("the public constructors", Eightways.class.getConstructors().length, 1);
        check.due("final", Modifier.isFinal(Eightways.class.getModifiers()), true);
        check.due("names that are used twice", doubledNames(names), List.of());
    }

    private static List<String> doubledNames(Set<String> names) {
        List<Class<?>> all = new ArrayList<>(List.of(Eightways.class.getDeclaredClasses()));
        all.add(Eightways.class);
        List<String> doubled = new ArrayList<>();
        for (Class<?> each : all) {
            for (Method method : each.getDeclaredMethods()) {
                if (names.contains(method.getName()) && !Modifier.isPublic(method.getModifiers())) {
                    doubled.add(method.toString());
                }
            }
        }
        return doubled;
    }

    private void classesInside() {
        check.due("few classes", Eightways.class.getDeclaredClasses().length < 12, true);
        fields(Eightways.class);
        for (Class<?> inside : Eightways.class.getDeclaredClasses()) {
            check.due(inside + " is private and static",
                    Modifier.isPrivate(inside.getModifiers()) && Modifier.isStatic(inside.getModifiers()), true);
            fields(inside);
        }
    }

    private void fields(Class<?> owner) {
        int own = 0;
        for (Field field : owner.getDeclaredFields()) {
            check.due(field + " is private", Modifier.isPrivate(field.getModifiers()), true);
            if (Modifier.isStatic(field.getModifiers())) {
                check.due(field + " is final", Modifier.isFinal(field.getModifiers()), true);
            } else {
                own++;
            }
        }
        check.due(owner + " has few fields", own <= 20, true);
    }

    private void source() throws IOException {
        String source = Files.readString(CLASS);
        for (String ruledOut : RULED_OUT) {
            Matcher matcher = Pattern.compile(ruledOut).matcher(source);
            check.due("found of " + ruledOut, matcher.find() ? matcher.group() : null, null);
        }
        Matcher imported = Pattern.compile("(?m)^import (.*);$").matcher(source);
        while (imported.find()) {
            check.due("import", imported.group(1), "java.util.NoSuchElementException");
        }
        Matcher thrown = Pattern.compile("throw (?!new \\w+\\(\"[^\"]*\"\\);)").matcher(source);
        check.due("throws but of new ones with a written text", thrown.find(), false);
    }
}
