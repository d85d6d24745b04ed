import java.lang.reflect.Method;
import java.lang.reflect.Modifier;
import java.nio.file.Files;
import java.nio.file.Path;
import java.util.List;
import java.util.regex.Matcher;
import java.util.regex.Pattern;

/** What README.md says of the class holds: each row of its example that tells an answer, and its table of calls. */
public final class ReadmeTest {
    private static final Pattern TEXT = Pattern.compile("for \\(char b : \"([^\"]*)\"\\.toCharArray\\(\\)\\) \\{");
    private static final Pattern TYPED = Pattern.compile("x\\.type\\(([01]), b\\);.*");
    private static final Pattern ANSWER = Pattern.compile("x\\.(\\w+)\\(([-0-9, ]*)\\);\\s*// (-?\\d+):.*");
    private static final List<String> OTHER_ROWS = List.of("ElevenPaces x = new ElevenPaces();", "}");

    private static final Check check = new Check();

    public static void main(String[] args) throws Exception {
        String readme = Files.readString(Path.of(System.getProperty("readme", "README.md")));
        int start = readme.indexOf("```java\n");
        int end = readme.indexOf("```\n", start + 1);
        check.that("there is an example", start >= 0 && end > start);
        if (start >= 0 && end > start) {
            example(readme.substring(start, end).lines().skip(1).toList());
        }
        everyCallIsInTheTable(readme);
        check.end();
    }

    private static void example(List<String> rows) throws Exception {
        ElevenPaces x = new ElevenPaces();
        String text = "";
        for (String row : rows) {
            Matcher told = TEXT.matcher(row.strip());
            Matcher typed = TYPED.matcher(row.strip());
            Matcher answer = ANSWER.matcher(row.strip());
            if (told.matches()) {
                text = told.group(1);
            } else if (typed.matches()) {
                for (char b : text.toCharArray()) x.type(Integer.parseInt(typed.group(1)), b);
            } else if (answer.matches()) {
                check.due(row, Long.parseLong(answer.group(3)), call(x, answer.group(1), answer.group(2)));
            } else {
                check.that("a row that the test understands: " + row, OTHER_ROWS.contains(row.strip()));
            }
        }
    }

    private static long call(ElevenPaces x, String name, String told) throws Exception {
        String[] words = told.isBlank() ? new String[0] : told.split(",");
        Class<?>[] types = new Class<?>[words.length];
        Object[] values = new Object[words.length];
        for (int i = 0; i < words.length; i++) {
            types[i] = int.class;
            values[i] = Integer.valueOf(words[i].strip());
        }
        return ((Number) ElevenPaces.class.getMethod(name, types).invoke(x, values)).longValue();
    }

    private static void everyCallIsInTheTable(String readme) {
        for (Method m : ElevenPaces.class.getDeclaredMethods()) {
            if (!Modifier.isPublic(m.getModifiers())) continue;
            Matcher row = Pattern.compile("`" + m.getName() + "\\(([^)`]*)\\)`").matcher(readme);
            boolean isThere = row.find();
            check.that(m.getName() + " is in the table", isThere);
            if (!isThere) continue;
            int told = row.group(1).isEmpty() ? 0 : row.group(1).split(",").length;
            check.due(m.getName() + " takes so many", m.getParameterCount(), told);
        }
    }
}
