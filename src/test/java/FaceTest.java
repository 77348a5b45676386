import java.lang.reflect.Constructor;
import java.lang.reflect.Field;
import java.lang.reflect.Method;
import java.lang.reflect.Modifier;
import java.util.ArrayList;
import java.util.Arrays;
import java.util.Collections;
import java.util.HashSet;
import java.util.List;
import java.util.Set;
import java.util.regex.Matcher;
import java.util.regex.Pattern;

/** The public face is the document's and nothing more, and the members keep to LANGUAGE.md, rules 1, 5 and 11. */
public final class FaceTest {
    private static final String ARGUMENT = "IllegalArgumentException";
    private static final String STATE = "IllegalStateException";
    private static final String INDEX = "IndexOutOfBoundsException";
    private static final String[] FACE = {
        "void size(int, int) " + ARGUMENT,
        "int matrix(int, int, int) " + ARGUMENT,
        "void begin(int, int, int, boolean) " + ARGUMENT + " " + STATE,
        "void scale(int) " + ARGUMENT + " " + STATE,
        "void itself() " + STATE,
        "void vector(int, int, int) " + ARGUMENT + " " + STATE,
        "void level(int, int, int) " + ARGUMENT + " " + STATE,
        "int square() " + STATE,
        "int leave(int) " + ARGUMENT + " " + STATE,
        "int done() " + STATE,
        "int last() " + STATE,
        "int sample(int, int, int) " + STATE + " " + INDEX,
        "int colour(int, int) " + STATE + " " + INDEX,
        "void light(float, float) " + ARGUMENT + " " + STATE,
        "void keep() " + STATE,
        "float error() " + STATE,
        "int told(int) " + ARGUMENT,
    };

    public static void main(String[] args) {
        Class<?> face = PictureDeck.class;
        Script.due("the class is public and final", face.getModifiers(), Modifier.PUBLIC | Modifier.FINAL);
        Script.due("constructors", constructors(face), List.of("public 0"));
        Script.due("what the class is made from", face.getSuperclass(), Object.class);
        Script.due("what the class implements", face.getInterfaces().length, 0);
        Script.due("methods", publicMethods(face), sorted(Arrays.asList(FACE)));
        if (Document.isThere()) {
            Script.due("the document's methods", documentMethods(), sorted(Arrays.asList(FACE)));
        }
        Set<String> publicNames = new HashSet<>();
        for (Method method : face.getDeclaredMethods()) {
            boolean isPublic = Modifier.isPublic(method.getModifiers());
            Script.due(method + " is public or private", isPublic || Modifier.isPrivate(method.getModifiers()), true);
            if (isPublic) {
                publicNames.add(method.getName());
                Script.due(method + " is public and nothing else", method.getModifiers(), Modifier.PUBLIC);
            }
        }
        checkMembers(face, publicNames);
        for (Class<?> inside : face.getDeclaredClasses()) {
            Script.due(inside + " is static", Modifier.isStatic(inside.getModifiers()), true);
            boolean isFace = (inside.getModifiers() & (Modifier.PUBLIC | Modifier.PROTECTED)) != 0;
            Script.due(inside + " is neither public nor protected", isFace, false);
            checkMembers(inside, publicNames);
        }
        for (Field field : face.getDeclaredFields()) {
            Script.due(field + " is private", Modifier.isPrivate(field.getModifiers()), true);
        }
        Script.due("at most twelve classes", face.getDeclaredClasses().length <= 12, true);
        Script.finish();
    }

    private static void checkMembers(Class<?> type, Set<String> publicNames) {
        int own = 0;
        for (Field field : type.getDeclaredFields()) {
            if (Modifier.isStatic(field.getModifiers())) {
                Script.due(field + " is final", Modifier.isFinal(field.getModifiers()), true);
            } else {
                own++;
            }
        }
        Script.due(type + " has at most twenty fields", own <= 20, true);
        for (Method method : type.getDeclaredMethods()) {
            Script.due(method + " takes at most seven", method.getParameterCount() <= 7, true);
            if (!Modifier.isPublic(method.getModifiers())) {
                Script.due(method + " has a name of its own", publicNames.contains(method.getName()), false);
            }
        }
    }

    private static List<String> constructors(Class<?> type) {
        List<String> all = new ArrayList<>();
        for (Constructor<?> constructor : type.getDeclaredConstructors()) {
            all.add(Modifier.toString(constructor.getModifiers()) + " " + constructor.getParameterCount());
        }
        return all;
    }

    private static List<String> publicMethods(Class<?> type) {
        List<String> all = new ArrayList<>();
        for (Method method : type.getDeclaredMethods()) {
            if (Modifier.isPublic(method.getModifiers())) {
                all.add(written(method));
            }
        }
        return sorted(all);
    }

    /** As the document writes them, but without the names of what they take. */
    private static List<String> documentMethods() {
        List<String> all = new ArrayList<>();
        Matcher method = Pattern.compile("public (\\w+ \\w+)\\(([^)]*)\\)(?: throws ([^;]*))?;")
            .matcher(Document.text(Document.FACE));
        while (method.find()) {
            String types = method.group(2).replaceAll("(\\w+) \\w+", "$1");
            all.add(method.group(1) + "(" + types + ") " + method.group(3).replace(",", ""));
        }
        return sorted(all);
    }

    private static String written(Method method) {
        StringBuilder text = new StringBuilder(method.getReturnType() + " " + method.getName() + "(");
        String separator = "";
        for (Class<?> type : method.getParameterTypes()) {
            text.append(separator).append(type);
            separator = ", ";
        }
        text.append(")");
        for (Class<?> type : method.getExceptionTypes()) {
            text.append(" ").append(type.getSimpleName());
        }
        return text.toString();
    }

    private static List<String> sorted(List<String> texts) {
        List<String> copy = new ArrayList<>(texts);
        Collections.sort(copy);
        return copy;
    }
}
