import java.io.IOException;
import java.lang.reflect.Constructor;
import java.lang.reflect.Field;
import java.lang.reflect.Method;
import java.lang.reflect.Modifier;
import java.nio.file.Files;
import java.nio.file.Path;
import java.util.HashSet;
import java.util.Set;
import java.util.TreeSet;
import java.util.regex.Pattern;

/** The public face of the document, and the rules of the language that a glance at class and text can check. */
public final class FaceTest {
    private static final String INDEX = " IndexOutOfBoundsException";
    private static final String ARGUMENT = " IllegalArgumentException";
    private static final String STATE = " IllegalStateException";

    private static final String[] FACE = {
        "int profile()" + STATE,
        "boolean corner(int,int,int)" + INDEX + ARGUMENT + STATE,
        "int at(int,int,int)" + INDEX,
        "int radius(int,int)" + INDEX,
        "long volume(int,int,int)" + INDEX,
        "long holds(int,int,int)" + INDEX,
        "long enclosed(int,int)" + INDEX,
        "int wall(int,int)" + INDEX + ARGUMENT,
        "int unlike(int,int)" + INDEX,
        "boolean cut(int,int)" + INDEX,
        "int drawn(int,int,int)" + INDEX,
        "int bound(int)" + ARGUMENT + STATE,
        "int size(int)" + INDEX,
        "int rim(int,int)" + ARGUMENT + STATE,
        "int clear()",
        "long circle(int)" + INDEX + STATE,
        "int curve()" + STATE,
        "int sherd(int,int)" + INDEX + ARGUMENT + STATE,
        "int vessels(int,int)" + INDEX,
        "int count(int)" + INDEX,
    };

    // Words that the language rules leave out of the class's text.
    private static final String[] LEFT_OUT = {
        "\\bimport\\b", "\\bpackage\\b", "->", "::", "\\bcatch\\b", "\\bfinally\\b", "\\bsynchronized\\b",
        "\\bassert\\b", "Exact\\(", "\\bSystem\\.(?!arraycopy)", "\\bThread\\b", "\\bRandom\\b", "\\bvar\\b",
    };

    public static void main(String[] args) throws IOException {
        Due.yes("the class is public and final",
                Modifier.isPublic(PotVolumes.class.getModifiers()) && Modifier.isFinal(PotVolumes.class.getModifiers()));
        Due.answer("NONE", -1, PotVolumes.NONE);
        methods();
        constructors();
        fields();
        classesInside();
        text();
        Due.end("FaceTest");
    }

    private static void methods() {
        Set<String> open = new TreeSet<>();
        Set<String> openNames = new HashSet<>();
        Set<String> closedNames = new HashSet<>();
        for (Method method : PotVolumes.class.getDeclaredMethods()) {
            if (Modifier.isPrivate(method.getModifiers())) {
                closedNames.add(method.getName());
            } else {
                open.add(signature(method));
                openNames.add(method.getName());
                Due.yes(method + " is public", Modifier.isPublic(method.getModifiers()));
                Due.no(method + " is static", Modifier.isStatic(method.getModifiers()));
            }
        }
        for (String want : FACE) {
            Due.yes("the face has " + want, open.remove(want));
        }
        Due.answer("methods beside the face " + open, 0, open.size());
        closedNames.retainAll(openNames);
        Due.answer("private methods with names of the face " + closedNames, 0, closedNames.size());
    }

    private static String signature(Method method) {
        StringBuilder text = new StringBuilder();
        text.append(method.getReturnType()).append(' ').append(method.getName()).append('(');
        Class<?>[] parameters = method.getParameterTypes();
        for (int i = 0; i < parameters.length; i++) {
            text.append(i == 0 ? "" : ",").append(parameters[i]);
        }
        text.append(')');
        for (Class<?> thrown : method.getExceptionTypes()) {
            text.append(' ').append(thrown.getSimpleName());
        }
        return text.toString();
    }

    private static void constructors() {
        Constructor<?>[] made = PotVolumes.class.getDeclaredConstructors();
        Due.answer("constructors", 1, made.length);
        Due.answer("parameters of the constructor", 0, made[0].getParameterCount());
        Due.yes("the constructor is public", Modifier.isPublic(made[0].getModifiers()));
    }

    private static void fields() {
        for (Field field : PotVolumes.class.getDeclaredFields()) {
            int is = field.getModifiers();
            if (field.getName().equals("NONE")) {
                Due.yes("NONE is a public constant int",
                        Modifier.isPublic(is) && Modifier.isStatic(is) && Modifier.isFinal(is) && field.getType() == int.class);
            } else {
                Due.yes(field + " is private", Modifier.isPrivate(is));
                Due.yes(field + " is final if it is static", !Modifier.isStatic(is) || Modifier.isFinal(is));
            }
        }
    }

    private static void classesInside() {
        for (Class<?> inside : PotVolumes.class.getDeclaredClasses()) {
            int is = inside.getModifiers();
            Due.yes(inside + " is static and neither public nor protected",
                    Modifier.isStatic(is) && !Modifier.isPublic(is) && !Modifier.isProtected(is));
        }
    }

    private static void text() throws IOException {
        String text = Files.readString(Path.of("src/main/java/PotVolumes.java"));
        String code = text.replaceAll("(?s)/\\*.*?\\*/", "").replaceAll("//[^\n]*", "");
        for (String word : LEFT_OUT) {
            Due.no("the class's text has " + word, Pattern.compile(word).matcher(code).find());
        }
        Due.yes("texts hold characters 0 to 255 alone", text.chars().allMatch(c -> c <= 255));
    }
}
