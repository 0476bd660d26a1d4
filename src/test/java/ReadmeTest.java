import java.lang.reflect.Method;
import java.lang.reflect.Modifier;
import java.nio.file.Files;
import java.nio.file.Path;
import java.util.ArrayList;
import java.util.HashMap;
import java.util.List;
import java.util.Map;
import java.util.regex.Matcher;
import java.util.regex.Pattern;

/** The examples of README.md answer what it says: a number behind // is that of the line's last call. */
public final class ReadmeTest {
    private static final Pattern BLOCK = Pattern.compile("(?s)```java\n(.*?)```");
    private static final Pattern CALL = Pattern.compile("watch\\.(\\w+)\\(([^)]*)\\);");
    private static final Pattern ANSWER = Pattern.compile("// (-?\\d+)");
    private static final String MAKER = "FallingLight watch = new FallingLight();";

    private static final Map<String, Method> ACTS = new HashMap<>();
    private static int wrong = 0;
    private static int asked = 0;

    private static void fault(String text) {
        wrong++;
        System.out.println(text);
    }

    private static Object[] arguments(Method act, String text) {
        List<Object> values = new ArrayList<>();
        String[] words = text.isEmpty() ? new String[0] : text.split(", ");
        for (int k = 0; k < words.length; k++) {
            boolean flag = act.getParameterTypes()[k] == boolean.class;
            values.add(flag ? (Object) Boolean.valueOf(words[k]) : (Object) Integer.valueOf(words[k]));
        }
        return values.toArray();
    }

    private static void runLine(FallingLight watch, String line) throws Exception {
        Matcher call = CALL.matcher(line);
        long got = 0;
        boolean some = false;
        while (call.find()) {
            Method act = ACTS.get(call.group(1));
            if (act == null) {
                fault("no such act: " + line);
                return;
            }
            got = (Long) act.invoke(watch, arguments(act, call.group(2)));
            some = true;
        }
        Matcher answer = ANSWER.matcher(line);
        if (!some) {
            fault("not a call: " + line);
        } else if (answer.find()) {
            asked++;
            if (Long.parseLong(answer.group(1)) != got) {
                fault(line + " answered " + got);
            }
        }
    }

    private static void runBlock(String block) throws Exception {
        FallingLight watch = new FallingLight();
        for (String line : block.split("\n")) {
            if (!line.equals(MAKER)) {
                runLine(watch, line);
            }
        }
    }

    public static void main(String[] args) throws Exception {
        String page = Files.readString(Path.of("README.md"));
        for (Method act : FallingLight.class.getDeclaredMethods()) {
            if (Modifier.isPublic(act.getModifiers())) {
                ACTS.put(act.getName(), act);
                if (!page.contains("`" + act.getName() + "(")) {
                    fault("README.md doesn't tell of " + act.getName());
                }
            }
        }
        Matcher block = BLOCK.matcher(page);
        while (block.find()) {
            runBlock(block.group(1));
        }
        if (asked == 0) {
            fault("README.md has no example");
        }
        System.out.println(wrong == 0 ? asked + " answers of README.md are as due" : wrong + " faults of README.md");
        if (wrong != 0) {
            System.exit(1);
        }
    }
}
