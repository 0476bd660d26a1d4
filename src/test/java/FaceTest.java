import java.lang.reflect.Constructor;
import java.lang.reflect.Field;
import java.lang.reflect.Method;
import java.lang.reflect.Modifier;
import java.nio.file.Files;
import java.nio.file.Path;
import java.util.Set;
import java.util.TreeSet;
import java.util.regex.Matcher;
import java.util.regex.Pattern;

/** The public face is the document's, act by act and group by group. */
public final class FaceTest {
    private static final Path DOCUMENT = Path.of("../shared/DOC.md");
    private static final Path SOURCE = Path.of("src/main/java/FallingLight.java");

    /** The acts' forms, by the document's public face. */
    private static final Set<String> FACE = new TreeSet<>();

    private static int wrong = 0;

    private static void fault(String text) {
        wrong++;
        System.out.println(text);
    }

    private static String form(Method m) {
        StringBuilder text = new StringBuilder(m.getReturnType() + " " + m.getName() + "(");
        String between = "";
        for (Class<?> p : m.getParameterTypes()) {
            text.append(between).append(p.getName());
            between = ",";
        }
        return text.append(")").toString();
    }

    /** The form of an act as the document writes it, without its parameters' names. */
    private static String form(String written) {
        return written.replaceAll("(int|boolean) \\w+", "$1").replace(", ", ",");
    }

    private static void readFace() throws Exception {
        String text = Files.readString(DOCUMENT);
        Matcher m = Pattern.compile("public (long \\w+\\([^)]*\\));").matcher(text);
        while (m.find()) {
            FACE.add(form(m.group(1)));
        }
        Set<String> promised = new TreeSet<>();
        m = Pattern.compile("## Promise \\d+: (\\w+)\\s+`(long (\\w+)\\([^)]*\\))`:").matcher(text);
        while (m.find()) {
            promised.add(form(m.group(2)));
            if (!m.group(1).equals(m.group(3))) {
                fault("the promise of " + m.group(1) + " tells of " + m.group(3));
            }
        }
        if (FACE.size() != 31 || !FACE.equals(promised)) {
            fault("the document's face and its promises aren't alike: " + FACE + promised);
        }
    }

    private static void lookAtMethods() {
        Set<String> due = new TreeSet<>(FACE);
        Set<String> names = new TreeSet<>();
        for (String face : FACE) {
            names.add(face.substring(5, face.indexOf('(')));
        }
        for (Method m : FallingLight.class.getDeclaredMethods()) {
            int flags = m.getModifiers();
            if (Modifier.isPublic(flags) && !Modifier.isStatic(flags)) {
                if (!due.remove(form(m))) {
                    fault("not of the face: " + form(m));
                }
            } else if (!Modifier.isPrivate(flags)) {
                fault("neither public nor private: " + form(m));
            } else if (names.contains(m.getName())) {
                fault("a private method with a public name: " + form(m));
            }
        }
        for (String face : due) {
            fault("missing: " + face);
        }
    }

    private static void lookAtRest() {
        Class<?> c = FallingLight.class;
        if (!Modifier.isFinal(c.getModifiers()) || !Modifier.isPublic(c.getModifiers())) {
            fault("the class isn't public and final");
        }
        Constructor<?>[] makers = c.getDeclaredConstructors();
        if (makers.length != 1 || !Modifier.isPublic(makers[0].getModifiers()) || makers[0].getParameterCount() != 0) {
            fault("the constructor isn't the document's");
        }
        for (Field f : c.getDeclaredFields()) {
            if (!Modifier.isPrivate(f.getModifiers())) {
                fault("a field isn't private: " + f.getName());
            }
            if (Modifier.isStatic(f.getModifiers()) && !Modifier.isFinal(f.getModifiers())) {
                fault("a static field isn't final: " + f.getName());
            }
        }
        for (Class<?> inside : c.getDeclaredClasses()) {
            int flags = inside.getModifiers();
            if (!Modifier.isStatic(flags) || Modifier.isPublic(flags) || Modifier.isProtected(flags)) {
                fault("a class inside isn't static and hidden: " + inside.getName());
            }
        }
    }

    /** The source tells the groups of acts as the document does, each ahead of its own. */
    private static void lookAtGroups() throws Exception {
        StringBuilder due = new StringBuilder();
        Matcher m = Pattern.compile("Ahead of the calls ([a-z`, ]*) the interface says: ---- ([a-z ]*)\\.")
                .matcher(Files.readString(DOCUMENT));
        while (m.find()) {
            due.append(m.group(2)).append(": ").append(m.group(1).replace("`", "")).append('\n');
        }
        StringBuilder got = new StringBuilder();
        m = Pattern.compile("// ---- ([a-z ]*)|public long (\\w+)\\(").matcher(Files.readString(SOURCE));
        String between = "";
        while (m.find()) {
            boolean group = m.group(1) != null;
            got.append(group ? (got.length() == 0 ? "" : "\n") + m.group(1) + ": " : between + m.group(2));
            between = group ? "" : ", ";
        }
        if (due.length() == 0 || !due.toString().equals(got.append('\n').toString())) {
            fault("the groups of acts aren't the document's:\n" + got);
        }
    }

    public static void main(String[] args) throws Exception {
        readFace();
        lookAtMethods();
        lookAtRest();
        lookAtGroups();
        System.out.println(wrong == 0 ? "the face is as due" : wrong + " faults of the face");
        if (wrong != 0) {
            System.exit(1);
        }
    }
}
