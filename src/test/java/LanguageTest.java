import java.io.IOException;
import java.lang.reflect.Field;
import java.lang.reflect.Method;
import java.lang.reflect.Modifier;
import java.nio.file.Files;
import java.nio.file.Path;
import java.util.ArrayList;
import java.util.Arrays;
import java.util.List;
import java.util.Set;
import java.util.TreeSet;
import java.util.regex.Matcher;
import java.util.regex.Pattern;

/** What of LANGUAGE.md can be read off the source and the compiled class. */
public final class LanguageTest extends Bench {
    private static final Set<String> EXCEPTIONS = new TreeSet<>(Arrays.asList(
        "IllegalStateException", "IllegalArgumentException", "IndexOutOfBoundsException", "ArithmeticException",
        "UnsupportedOperationException", "NoSuchElementException", "RuntimeException"));
    private static final Set<String> IMPORTS = new TreeSet<>(Arrays.asList(
        "ArrayList", "Arrays", "Iterator", "List", "NoSuchElementException"));
    private static final String[] REFUSED = {
        "package", "finally", "synchronized", "assert", "volatile", "native", "Throwable", "Error", "Exception",
        "getMessage", "Thread", "Runtime", "Random", "random", "nanoTime", "currentTimeMillis", "getenv", "getProperty",
        "identityHashCode", "hashCode", "reflect", "addExact", "subtractExact", "multiplyExact", "toIntExact"};

    public static void main(String[] args) throws IOException {
        String code = withoutCommentsAndTexts(Files.readString(Path.of("src/main/java/CountedHeap.java")));
        words(code);
        imports(code);
        thrown(code);
        List<Class<?>> classes = new ArrayList<>(Arrays.asList(CountedHeap.class.getDeclaredClasses()));
        classes.add(CountedHeap.class);
        CHECK.about("rule 11: at most some twelve classes");
        CHECK.is("classes, " + classes.size(), classes.size() <= 13, true);
        for (Class<?> each : classes) {
            fields(each);
            methods(each);
        }
        CHECK.done();
    }

    private static String withoutCommentsAndTexts(String source) {
        return source.replaceAll("\"[^\"\n]*\"", "\"\"").replaceAll("(?s)/\\*.*?\\*/", "").replaceAll("//[^\n]*", "");
    }

    private static void words(String code) {
        CHECK.about("rules 2, 4, 5, 6 and 13: what the class may not use");
        for (String word : REFUSED) {
            CHECK.is(word, Pattern.compile("\\b" + word + "\\b").matcher(code).find(), false);
        }
        String withoutCases = code.replaceAll("\\b(case|default)\\b[^;{}]*?->", "");
        CHECK.is("a lambda or a method reference", withoutCases.contains("->") || code.contains("::"), false);
        CHECK.is("a static initialiser", Pattern.compile("static\\s*\\{").matcher(code).find(), false);
    }

    private static void imports(String code) {
        CHECK.about("rule 4: only what stands there of the library");
        Matcher found = Pattern.compile("\\bimport\\s+([^;]*);").matcher(code);
        while (found.find()) {
            String name = found.group(1);
            CHECK.is(name, name.startsWith("java.util.") && IMPORTS.contains(name.substring(10)), true);
        }
    }

    private static void thrown(String code) {
        CHECK.about("rule 6: throw new E() or throw new E(\"a written text\")");
        Matcher found = Pattern.compile("\\bthrow\\b([^;]*);").matcher(code);
        while (found.find()) {
            Matcher sound = Pattern.compile("\\s+new (\\w+)\\((\"\")?\\)").matcher(found.group(1));
            CHECK.is("throw" + found.group(1), sound.matches() && EXCEPTIONS.contains(sound.group(1)), true);
        }
    }

    private static void fields(Class<?> each) {
        CHECK.about("rules 5 and 11: static fields are final, and the rest are some twenty at most");
        int own = 0;
        for (Field field : each.getDeclaredFields()) {
            boolean shared = Modifier.isStatic(field.getModifiers());
            CHECK.is(field + " changes", shared && !Modifier.isFinal(field.getModifiers()), false);
            own += shared ? 0 : 1;
        }
        CHECK.is(each.getName() + " has " + own + " fields", own <= 22, true);
    }

    private static void methods(Class<?> each) {
        CHECK.about("rule 11: a method takes at most seven parameters");
        for (Method method : each.getDeclaredMethods()) {
            CHECK.is(method.toString(), method.getParameterCount() <= 7, true);
        }
    }
}
