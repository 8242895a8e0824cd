import java.io.IOException;
import java.lang.reflect.InvocationTargetException;
import java.lang.reflect.Method;
import java.lang.reflect.Modifier;
import java.nio.file.Files;
import java.nio.file.Path;
import java.util.List;
import java.util.regex.Matcher;
import java.util.regex.Pattern;

/** README.md tells the truth: its example answers what its comments say, and its table has every call. */
public final class ReadmeTest extends Bench {
    // A call with its numbers; behind // the answer, or 'throws' and a name, up to a colon.
    private static final Pattern CALL = Pattern.compile("heap\\.(\\w+)\\(([-\\d, ]*)\\);\\s*// ([^:]+)(:.*)?");
    private static final String FIRST_LINE = "CountedHeap heap = new CountedHeap();";

    public static void main(String[] args) throws IOException, ReflectiveOperationException {
        List<String> readme = Files.readAllLines(Path.of("README.md"));
        exampleAnswers(readme);
        tableHasEveryCall(readme);
        CHECK.done();
    }

    private static void exampleAnswers(List<String> readme) throws ReflectiveOperationException {
        CHECK.about("the example of README.md");
        int begin = readme.indexOf("```java");
        CHECK.is("there is one", begin >= 0 && readme.get(begin + 1).equals(FIRST_LINE), true);
        CountedHeap heap = new CountedHeap();
        int calls = 0;
        for (int at = begin + 2; at < readme.size() && !readme.get(at).equals("```"); at++) {
            Matcher call = CALL.matcher(readme.get(at));
            boolean clear = call.matches();
            CHECK.is("a call and its answer: " + readme.get(at), clear, true);
            if (clear) {
                CHECK.is(readme.get(at), answer(heap, call.group(1), call.group(2)), call.group(3));
                calls++;
            }
        }
        CHECK.is("it has calls", calls > 0, true);
    }

    private static String answer(CountedHeap heap, String name, String numbers) throws ReflectiveOperationException {
        String[] texts = numbers.isEmpty() ? new String[0] : numbers.split(", ");
        Class<?>[] kinds = new Class<?>[texts.length];
        Object[] values = new Object[texts.length];
        for (int k = 0; k < texts.length; k++) {
            kinds[k] = int.class;
            values[k] = Integer.valueOf(texts[k]);
        }
        try {
            return String.valueOf(CountedHeap.class.getMethod(name, kinds).invoke(heap, values));
        } catch (InvocationTargetException e) {
            return "throws " + e.getCause().getClass().getSimpleName();
        }
    }

    private static void tableHasEveryCall(List<String> readme) {
        CHECK.about("the table of README.md");
        for (Method method : CountedHeap.class.getDeclaredMethods()) {
            if (Modifier.isPublic(method.getModifiers())) {
                String row = "| `" + method.getName() + "(";
                CHECK.is(row, readme.stream().filter(line -> line.startsWith(row)).count(), 1);
            }
        }
    }
}
