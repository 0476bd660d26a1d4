import java.lang.reflect.Constructor;
import java.lang.reflect.Field;
import java.lang.reflect.Method;
import java.lang.reflect.Modifier;
import java.nio.file.Files;
import java.nio.file.Path;
import java.util.Set;
import java.util.TreeSet;
import java.util.regex.Matcher;
import java.util.regex.Pattern;

/** The public face is the document's, and the source keeps to the rules that can be seen from words. */
public final class FaceTest {
    private static final String[] FACE = {
        "long star(int,int)",
        "long spot(int,int)",
        "long row(int,int)",
        "long put(int,int,int)",
        "long load(int,int,int,boolean)",
        "long clear(boolean)",
        "long near(int)",
        "long corner(int,int,int,int,boolean)",
        "long votes(int,int)",
        "long match(int)",
        "long matched()",
        "long table(int)",
        "long place(int,int,boolean,boolean)",
        "long station(int,int,int,int)",
        "long tell(int)",
        "long sight(int,int,int)",
        "long drop(int)",
        "long about(int,int,int)",
        "long as(int,int,int)",
        "long point(int,int,int,boolean,int,boolean)",
        "long fall(int,int,int,int)",
        "long angle(int,int,int,boolean)",
        "long best(int)",
        "long land(int,int,int,boolean,boolean)",
        "long wind(int,int,int)",
        "long drift(int,int,int,boolean,boolean)",
        "long radiant(int,int,int)",
        "long shower(int,int)",
        "long check()",
        "long count(int)",
        "long found(int)",
    };

    private static int wrong = 0;

    private static void fault(String text) {
        wrong++;
        System.out.println(text);
    }

    private static String form(Method m) {
        StringBuilder text = new StringBuilder(m.getReturnType() + " " + m.getName() + "(");
        String between = "";
        for (Class<?> p : m.getParameterTypes()) {
            text.append(between).append(p.getName());
            between = ",";
        }
        return text.append(")").toString();
    }

    private static void lookAtMethods() {
        Set<String> due = new TreeSet<>(Set.of(FACE));
        Set<String> names = new TreeSet<>();
        for (String face : FACE) {
            names.add(face.substring(5, face.indexOf('(')));
        }
        for (Method m : FallingLight.class.getDeclaredMethods()) {
            int flags = m.getModifiers();
            if (Modifier.isPublic(flags) && !Modifier.isStatic(flags)) {
                if (!due.remove(form(m))) {
                    fault("not of the face: " + form(m));
                }
            } else if (!Modifier.isPrivate(flags)) {
                fault("neither public nor private: " + form(m));
            } else if (names.contains(m.getName())) {
                fault("a private method with a public name: " + form(m));
            }
        }
        for (String face : due) {
            fault("missing: " + face);
        }
    }

    private static void lookAtRest() {
        Class<?> c = FallingLight.class;
        if (!Modifier.isFinal(c.getModifiers()) || !Modifier.isPublic(c.getModifiers())) {
            fault("the class isn't public and final");
        }
        Constructor<?>[] makers = c.getDeclaredConstructors();
        if (makers.length != 1 || !Modifier.isPublic(makers[0].getModifiers()) || makers[0].getParameterCount() != 0) {
            fault("the constructor isn't the document's");
        }
        for (Field f : c.getDeclaredFields()) {
            if (!Modifier.isPrivate(f.getModifiers())) {
                fault("a field isn't private: " + f.getName());
            }
            if (Modifier.isStatic(f.getModifiers()) && !Modifier.isFinal(f.getModifiers())) {
                fault("a static field isn't final: " + f.getName());
            }
        }
        for (Class<?> inside : c.getDeclaredClasses()) {
            int flags = inside.getModifiers();
            if (!Modifier.isStatic(flags) || Modifier.isPublic(flags) || Modifier.isProtected(flags)) {
                fault("a class inside isn't static and hidden: " + inside.getName());
            }
        }
        if (c.getDeclaredClasses().length > 11) {
            fault("more than twelve classes");
        }
    }

    private static void lookAtSource() throws Exception {
        String source = Files.readString(Path.of("src/main/java/FallingLight.java"));
        String code = source.replaceAll("(?s)/\\*.*?\\*/", " ").replaceAll("//[^\n]*", " ");
        Matcher m = Pattern.compile("\\b(throw|throws|try|catch|synchronized|assert|package|import|->|\\w+Exact)\\b|::|->").matcher(code);
        while (m.find()) {
            fault("a word that the rules leave out: " + m.group());
        }
    }

    public static void main(String[] args) throws Exception {
        lookAtMethods();
        lookAtRest();
        lookAtSource();
        System.out.println(wrong == 0 ? "the face is as due" : wrong + " faults of the face");
        if (wrong != 0) {
            System.exit(1);
        }
    }
}
