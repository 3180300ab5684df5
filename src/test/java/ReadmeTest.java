import java.lang.reflect.Method;
import java.lang.reflect.Modifier;
import java.nio.file.Files;
import java.nio.file.Path;
import java.util.HashMap;
import java.util.Map;
import java.util.Set;
import java.util.TreeSet;
import java.util.regex.Matcher;
import java.util.regex.Pattern;

/** Makes the calls that README.md tells, and compares their answers with the numbers that stand behind them. */
public final class ReadmeTest {
    private static final Pattern CALL = Pattern.compile(
        "(?:int (\\w+) = )?store\\.(\\w+)\\(([\\w, ]*)\\);\\s*// (-?\\d+).*");
    private static final Pattern TOLD = Pattern.compile("`(\\w+)\\(");
    private static final Check CHECK = new Check("ReadmeTest");

    public static void main(String[] args) throws Exception {
        String text = Files.readString(Path.of("README.md"));
        example(text);
        everyMethodIsTold(text);
        CHECK.end();
    }

    private static void example(String text) throws Exception {
        int start = text.indexOf("```java\n") + 8;
        PageStore store = new PageStore();
        Map<String, Integer> names = new HashMap<>();
        int calls = 0;
        for (String line : text.substring(start, text.indexOf("```", start)).split("\n")) {
            if (line.isEmpty() || line.startsWith("PageStore store = ")) {
                continue;
            }
            Matcher m = CALL.matcher(line);
            boolean isCall = m.matches();
            CHECK.holds("a call with its answer: " + line, isCall);
            if (isCall) {
                int answer = call(store, m.group(2), m.group(3), names);
                CHECK.due(line, answer, Integer.parseInt(m.group(4)));
                names.put(m.group(1), answer);
                calls++;
            }
        }
        CHECK.holds("there are calls", calls > 0);
    }

    private static int call(PageStore store, String name, String list, Map<String, Integer> names)
            throws Exception {
        String[] words = list.isEmpty() ? new String[0] : list.split(", ");
        Class<?>[] types = new Class<?>[words.length];
        Object[] numbers = new Object[words.length];
        for (int i = 0; i < words.length; i++) {
            types[i] = int.class;
            numbers[i] = names.containsKey(words[i]) ? names.get(words[i]) : Integer.valueOf(words[i]);
        }
        return (Integer) PageStore.class.getMethod(name, types).invoke(store, numbers);
    }

    private static void everyMethodIsTold(String text) {
        Set<String> told = new TreeSet<>();
        Matcher m = TOLD.matcher(text);
        while (m.find()) {
            told.add(m.group(1));
        }
        for (Method method : PageStore.class.getDeclaredMethods()) {
            if (Modifier.isPublic(method.getModifiers())) {
                CHECK.holds("README.md tells of " + method.getName(), told.contains(method.getName()));
            }
        }
    }
}
