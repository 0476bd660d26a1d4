import java.lang.reflect.Executable;
import java.lang.reflect.Field;
import java.lang.reflect.Method;
import java.lang.reflect.Modifier;
import java.nio.file.Files;
import java.nio.file.Path;
import java.util.ArrayList;
import java.util.HashMap;
import java.util.HashSet;
import java.util.List;
import java.util.Map;
import java.util.Set;
import java.util.regex.Matcher;
import java.util.regex.Pattern;

/** The source keeps to the rules of ../shared/LANGUAGE.md, as far as its words and its classes show it. */
public final class LanguageTest {
    private static final Path SOURCE = Path.of("src/main/java/FallingLight.java");
    private static final int LINES = 60;
    private static final int DEPTH = 8;
    private static final int CLASSES = 12;
    private static final int FIELDS = 20;
    private static final int PARAMETERS = 7;

    private static final Pattern LEFT_OUT = Pattern.compile("\\b(throw|throws|try|catch|finally|synchronized|assert|package|import"
            + "|float|double|String|native|volatile|\\w+Exact|hashCode|equals|toString)\\b|::|->|@");
    private static final Pattern LIBRARY = Pattern.compile("\\b(Math|Integer|Long|System|Arrays|List|ArrayList)\\.(\\w+)");
    private static final Set<String> LISTED = Set.of("Math.abs", "Math.max", "Math.min");
    private static final Pattern HEAD = Pattern.compile("^( {4}| {8})(?:(?:public|private|static|final) )*(?:[\\w\\[\\]]+ )?(\\w+)\\([^)]*\\) \\{$");
    private static final Set<String> NO_METHODS = Set.of("if", "for", "while", "switch");

    /** Each method's body, by its name; a constructor's by that of its class. */
    private static final Map<String, String> BODIES = new HashMap<>();
    private static final Map<String, Integer> DEPTHS = new HashMap<>();
    private static int heads = 0;
    private static int declared = 0;
    private static int wrong = 0;

    private static void fault(String text) {
        wrong++;
        System.out.println(text);
    }

    private static void lookAtWords(String code) {
        Matcher m = LEFT_OUT.matcher(code);
        while (m.find()) {
            fault("a word that the rules leave out: " + m.group());
        }
        m = LIBRARY.matcher(code);
        while (m.find()) {
            if (!LISTED.contains(m.group())) {
                fault("not of the library that is listed here: " + m.group());
            }
        }
        for (char sign : code.toCharArray()) {
            if (sign > 127) {
                fault("a sign above 127");
            }
        }
    }

    private static void readMethods(String[] lines) {
        for (int from = 0; from < lines.length; from++) {
            Matcher head = HEAD.matcher(lines[from]);
            if (!head.find() || NO_METHODS.contains(head.group(2))) {
                continue;
            }
            int to = from + 1;
            while (to < lines.length && !lines[to].equals(head.group(1) + "}")) {
                to++;
            }
            if (to - from + 1 > LINES) {
                fault("a long method: " + head.group(2));
            }
            heads++;
            // Two of one name are taken together, so that the depth is never told too low.
            String body = String.join("\n", List.of(lines).subList(from + 1, Math.min(to, lines.length)));
            BODIES.merge(head.group(2), body, (one, other) -> one + "\n" + other);
        }
    }

    /** How many calls stand open at most from this method on; a method that comes back to itself is a fault. */
    private static int depth(String name, List<String> open) {
        if (open.contains(name)) {
            fault("recursion: " + open + " " + name);
            return 1;
        }
        Integer known = DEPTHS.get(name);
        if (known != null) {
            return known;
        }
        List<String> inside = new ArrayList<>(open);
        inside.add(name);
        int most = 0;
        Matcher call = Pattern.compile("\\b(\\w+)\\(").matcher(BODIES.get(name));
        Set<String> called = new HashSet<>();
        while (call.find()) {
            if (BODIES.containsKey(call.group(1)) && called.add(call.group(1))) {
                most = Math.max(most, depth(call.group(1), inside));
            }
        }
        DEPTHS.put(name, most + 1);
        return most + 1;
    }

    private static void lookAtDepths() {
        for (String name : BODIES.keySet()) {
            if (depth(name, List.of()) > DEPTH) {
                fault("calls go too deep from " + name);
            }
        }
    }

    private static void lookAtClass(Class<?> c) {
        List<Executable> all = new ArrayList<>(List.of(c.getDeclaredMethods()));
        all.addAll(List.of(c.getDeclaredConstructors()));
        for (Executable e : all) {
            declared += e.isSynthetic() ? 0 : 1;
            if (e.getParameterCount() > PARAMETERS) {
                fault("too many parameters: " + c.getName() + "." + e.getName());
            }
            if (e instanceof Method && c != FallingLight.class && isOfFace(e.getName())) {
                fault("a name of the face: " + c.getName() + "." + e.getName());
            }
        }
        int fields = 0;
        for (Field f : c.getDeclaredFields()) {
            if (!Modifier.isStatic(f.getModifiers())) {
                fields++;
            } else if (!Modifier.isFinal(f.getModifiers()) || f.getType() != int.class && f.getType() != long.class) {
                fault("not a constant: " + f.getName());
            }
        }
        if (fields > FIELDS) {
            fault("too many fields: " + c.getName());
        }
        if (c != FallingLight.class && (!Modifier.isStatic(c.getModifiers()) || c.isAnonymousClass() || c.isLocalClass())) {
            fault("not a static class: " + c.getName());
        }
    }

    private static boolean isOfFace(String name) {
        for (Method m : FallingLight.class.getDeclaredMethods()) {
            if (Modifier.isPublic(m.getModifiers()) && m.getName().equals(name)) {
                return true;
            }
        }
        return false;
    }

    public static void main(String[] args) throws Exception {
        String source = Files.readString(SOURCE);
        lookAtWords(source.replaceAll("(?s)/\\*.*?\\*/", " ").replaceAll("//[^\n]*", " "));
        readMethods(source.split("\n"));
        lookAtDepths();
        lookAtClass(FallingLight.class);
        Class<?>[] inside = FallingLight.class.getDeclaredClasses();
        for (Class<?> c : inside) {
            lookAtClass(c);
        }
        if (heads != declared) {
            fault("of " + declared + " methods and constructors " + heads + " can be read");
        }
        if (inside.length + 1 > CLASSES) {
            fault("more than " + CLASSES + " classes");
        }
        int deepest = DEPTHS.values().stream().mapToInt(Integer::intValue).max().orElse(0);
        System.out.println(wrong == 0 ? heads + " methods and constructors, " + deepest + " calls deep, are as the rules have it"
                : wrong + " faults of the language");
        if (wrong != 0) {
            System.exit(1);
        }
    }
}
