import java.lang.reflect.Method;
import java.nio.file.Files;
import java.nio.file.Path;
import java.util.ArrayList;
import java.util.List;
import java.util.regex.Matcher;
import java.util.regex.Pattern;
import java.util.stream.Stream;

/** Makes the calls of README.md's example, and looks for every call and every test on that page. */
public final class ReadmeTest {
    private static final Due DUE = new Due();
    private static final String MAKES = "LentTools x = new LentTools();";
    private static final Pattern CALL = Pattern.compile("x\\.(\\w+)\\((.*)\\); +// (-?\\d+|true|false): .*");
    private static final Pattern TOLD = Pattern.compile("tell\\(x, (.*)\\);");

    public static void main(String[] args) throws Exception {
        String page = Files.readString(Path.of("README.md"));
        int from = page.indexOf(MAKES);
        int to = page.indexOf("```", Math.max(0, from));
        DUE.is("README.md has an example", from >= 0 && to > from, true);
        if (from >= 0 && to > from) {
            example(page.substring(from + MAKES.length(), to));
        }
        for (Method m : LentTools.class.getDeclaredMethods()) {
            if (java.lang.reflect.Modifier.isPublic(m.getModifiers())) {
                DUE.is("README.md names " + m.getName(), page.contains("`" + m.getName() + "`"), true);
                DUE.is("README.md shows " + m.getName(), page.contains(" x." + m.getName() + "(")
                        || page.contains("\nx." + m.getName() + "("), true);
            }
        }
        for (Path test : tests()) {
            String name = test.getFileName().toString().replace(".java", "");
            DUE.is("README.md names " + name, page.contains("`" + name + "`"), true);
        }
        DUE.is("README.md says how to run the tests", page.contains("bash .ci/run"), true);
        DUE.close();
    }

    private static List<Path> tests() throws Exception {
        try (Stream<Path> all = Files.list(Path.of("src/test/java"))) {
            return all.filter(p -> p.toString().endsWith("Test.java")).toList();
        }
    }

    private static void example(String lines) throws Exception {
        LentTools x = new LentTools();
        int calls = 0;
        // A text told on two lines is joined first.
        for (String line : lines.replaceAll("\"\\s*\\+ \"", "").split("\n")) {
            Matcher call = CALL.matcher(line.strip());
            Matcher told = TOLD.matcher(line.strip());
            if (call.matches()) {
                DUE.is("README.md: " + line, answer(x, call.group(1), call.group(2)), call.group(3));
                calls++;
            } else if (told.matches()) {
                Due.tell(x, told.group(1).replace("\"", ""));
            } else {
                DUE.is("README.md: a line without a call: " + line, line.isBlank() || line.startsWith("//"), true);
            }
        }
        DUE.is("README.md's calls", calls > 30, true);
    }

    private static String answer(LentTools x, String name, String told) throws Exception {
        List<Class<?>> types = new ArrayList<>();
        List<Object> values = new ArrayList<>();
        for (String value : told.isEmpty() ? new String[0] : told.split(", ")) {
            boolean isNumber = value.matches("-?\\d+");
            types.add(isNumber ? int.class : boolean.class);
            values.add(isNumber ? (Object) Integer.valueOf(value) : Boolean.valueOf(value));
        }
        Method m = LentTools.class.getMethod(name, types.toArray(new Class<?>[0]));
        return m.invoke(x, values.toArray()).toString();
    }
}
