import java.io.IOException;
import java.lang.reflect.Method;
import java.lang.reflect.Modifier;
import java.nio.file.Files;
import java.nio.file.Path;
import java.util.List;
import java.util.regex.Matcher;
import java.util.regex.Pattern;
import java.util.stream.Collectors;
import java.util.stream.Stream;

/** README.md tells the truth: its example answers as it says, and it names every call and every test. */
public final class ReadmeTest {
    private static final Pattern TEXT = Pattern.compile("String text = \"([^\"]*)\";");
    private static final Pattern CALL = Pattern.compile("bags\\.(\\w+)\\(([^)]*)\\);\\s*// -> (-?\\d+)\\b.*");
    private static final int CALLS_IN_EXAMPLE = 19;

    public static void main(String[] args) throws IOException, ReflectiveOperationException {
        String page = Files.readString(Path.of("README.md"));
        example(page);
        allCalls(page);
        allTests(page);
        Check.finish("ReadmeTest");
    }

    private static void example(String page) throws ReflectiveOperationException {
        Matcher text = TEXT.matcher(page);
        Check.due("the example has a text", text.find());
        NineBags bags = new NineBags();
        Check.feedAll(bags, text.group(1));
        int calls = 0;
        Matcher call = CALL.matcher(page);
        while (call.find()) {
            calls++;
            int answer = answerOf(bags, call.group(1), call.group(2));
            Check.due("README.md: " + call.group(0), answer, Integer.parseInt(call.group(3)));
        }
        Check.due("calls in the example", calls, CALLS_IN_EXAMPLE);
    }

    private static int answerOf(NineBags bags, String name, String words) throws ReflectiveOperationException {
        List<String> parts = words.isEmpty() ? List.of() : List.of(words.split(", "));
        Class<?>[] types = new Class<?>[parts.size()];
        Object[] values = new Object[parts.size()];
        for (int i = 0; i < parts.size(); i++) {
            boolean isTruth = parts.get(i).equals("true") || parts.get(i).equals("false");
            types[i] = isTruth ? boolean.class : int.class;
            values[i] = isTruth ? (Object) Boolean.valueOf(parts.get(i)) : (Object) Integer.valueOf(parts.get(i));
        }
        return (Integer) NineBags.class.getMethod(name, types).invoke(bags, values);
    }

    private static void allCalls(String page) {
        for (Method method : NineBags.class.getDeclaredMethods()) {
            if (Modifier.isPublic(method.getModifiers())) {
                Pattern row = Pattern.compile("^\\|[^|]*`" + method.getName() + "\\(", Pattern.MULTILINE);
                Check.due("README.md has a row of " + method.getName() + "()", row.matcher(page).find());
            }
        }
    }

    private static void allTests(String page) throws IOException {
        try (Stream<Path> files = Files.list(Path.of("src/test/java"))) {
            List<String> names = files.map(file -> file.getFileName().toString())
                    .filter(name -> name.endsWith("Test.java"))
                    .map(name -> name.substring(0, name.length() - ".java".length()))
                    .collect(Collectors.toList());
            for (String name : names) {
                Check.due("README.md has a row of " + name, page.contains("| " + name + " |"));
            }
        }
    }
}
