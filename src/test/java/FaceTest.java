import java.io.IOException;
import java.lang.reflect.Constructor;
import java.lang.reflect.Field;
import java.lang.reflect.Method;
import java.lang.reflect.Modifier;
import java.nio.file.Files;
import java.nio.file.Path;
import java.util.Set;
import java.util.TreeSet;

/** The public face of the document, and the rules of LANGUAGE.md that a program can look at. */
public final class FaceTest {
    private static final String[] FACE = {
        "int letter(int)", "int blank()", "int fault()", "int house()", "int cell(int,int)", "int as(int,int)",
        "int dusk(boolean)", "int clerk(int,int)", "int look(int,int)", "int clerkOf(int,int)", "int person(int)",
        "int personOf(int,int)", "int step(int,int)", "int walk(int,int,int)", "int post(int)", "int tilt(int,int)",
        "int ledger(int)", "int forget()", "int fits(int,int)", "int days(int,int,int)", "int image()",
        "int restore()", "int count(int)", "long digest()"};
    private static final String[] FORBIDDEN = {
        "import ", "throw ", "throws ", "try ", "catch ", "synchronized", "assert ", "->", "::", "package ",
        "System.", "Exception", "protected ", "hashCode", "toString"};

    public static void main(String[] args) throws IOException {
        constants();
        face();
        classesInside();
        words(Path.of(args.length > 0 ? args[0] : "src/main/java/MirrorClerks.java"));
        Check.end("FaceTest");
    }

    private static void constants() {
        Check.due("NONE", MirrorClerks.NONE, -1);
        Check.due("UNKNOWN", MirrorClerks.UNKNOWN, -101);
        Check.due("OUTSIDE", MirrorClerks.OUTSIDE, -102);
        Check.due("STATE", MirrorClerks.STATE, -103);
        Check.due("FULL", MirrorClerks.FULL, -104);
    }

    private static void face() {
        Check.isTrue("the class is public", Modifier.isPublic(MirrorClerks.class.getModifiers()));
        Check.isTrue("the class is final", Modifier.isFinal(MirrorClerks.class.getModifiers()));
        Set<String> due = new TreeSet<>(Set.of(FACE));
        Set<String> open = new TreeSet<>();
        Set<String> openNames = new TreeSet<>();
        for (Method method : MirrorClerks.class.getDeclaredMethods()) {
            if (!Modifier.isPrivate(method.getModifiers()) && !method.isSynthetic()) {
                open.add(signature(method));
                openNames.add(method.getName());
                Check.isTrue(method + " is public", Modifier.isPublic(method.getModifiers()));
            }
        }
        Check.isTrue("the methods are those of the document: " + open, open.equals(due));
        for (Method method : MirrorClerks.class.getDeclaredMethods()) {
            if (Modifier.isPrivate(method.getModifiers())) {
                Check.isTrue(method + " bears no public name", !openNames.contains(method.getName()));
            }
        }
        Constructor<?>[] constructors = MirrorClerks.class.getDeclaredConstructors();
        Check.due("constructors", constructors.length, 1);
        Check.isTrue("the constructor is public", Modifier.isPublic(constructors[0].getModifiers()));
        Check.due("parameters of the constructor", constructors[0].getParameterCount(), 0);
        fields();
    }

    private static void fields() {
        Set<String> constants = Set.of("NONE", "UNKNOWN", "OUTSIDE", "STATE", "FULL");
        for (Field field : MirrorClerks.class.getDeclaredFields()) {
            boolean isPublic = Modifier.isPublic(field.getModifiers());
            Check.isTrue(field + " is public or private", isPublic || Modifier.isPrivate(field.getModifiers()));
            boolean isTold = constants.contains(field.getName());
            Check.isTrue(field + " is public if the document tells it", isPublic == isTold);
        }
    }

    private static String signature(Method method) {
        StringBuilder text = new StringBuilder();
        text.append(method.getReturnType()).append(' ').append(method.getName()).append('(');
        for (int i = 0; i < method.getParameterCount(); i++) {
            text.append(i == 0 ? "" : ",").append(method.getParameterTypes()[i]);
        }
        return text.append(')').toString();
    }

    private static void classesInside() {
        Class<?>[] inside = MirrorClerks.class.getDeclaredClasses();
        Check.isTrue("twelve classes at most", inside.length + 1 <= 12);
        limits(MirrorClerks.class);
        for (Class<?> one : inside) {
            Check.isTrue(one + " is static", Modifier.isStatic(one.getModifiers()));
            Check.isTrue(one + " isn't public", !Modifier.isPublic(one.getModifiers()));
            limits(one);
        }
    }

    private static void limits(Class<?> one) {
        int held = 0;
        for (Field field : one.getDeclaredFields()) {
            boolean isStatic = Modifier.isStatic(field.getModifiers());
            Check.isTrue(field + " is final if static", !isStatic || Modifier.isFinal(field.getModifiers()));
            held += isStatic ? 0 : 1;
        }
        Check.isTrue(one + " has twenty fields at most", held <= 20);
        for (Method method : one.getDeclaredMethods()) {
            Check.isTrue(method + " has seven parameters at most", method.getParameterCount() <= 7);
        }
    }

    private static void words(Path source) throws IOException {
        String text = Files.readString(source);
        for (String word : FORBIDDEN) {
            Check.isTrue("the source does without '" + word + "'", !text.contains(word));
        }
    }
}
