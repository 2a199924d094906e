import java.io.IOException;
import java.lang.reflect.Constructor;
import java.lang.reflect.Field;
import java.lang.reflect.Method;
import java.lang.reflect.Modifier;
import java.nio.file.Files;
import java.nio.file.Path;
import java.util.Set;
import java.util.TreeSet;
import java.util.regex.Matcher;
import java.util.regex.Pattern;

/** The public face is the document's and no more, and the source keeps to the rules of LANGUAGE.md that can be read off it. */
public final class FaceTest {
    private static final Set<String> FACE = Set.of(
            "boolean feed(int,int,int,int,int)", "boolean end(int)", "int rule(int,int,int)",
            "void spawn()", "boolean send()", "void put()", "long come(long)", "int fit()",
            "boolean take(int)", "long pass(long)", "int total(int)", "int bufferAt(int)", "int toldAt(int)");
    private static final Set<Class<?>> CONSTANTS = Set.of(int.class, long.class, boolean.class, char.class, String.class);
    private static final String RULED_OUT = "\\b(throw|throws|try|catch|synchronized|assert|package|"
            + "protected|Thread|Random|System\\.(?!arraycopy\\b)\\w+|\\w+Exact)\\b|->|::|@\\w+";

    public static void main(String[] args) throws IOException {
        int modifiers = PeerLine.class.getModifiers();
        Check.yes("the class is public and final", Modifier.isPublic(modifiers) && Modifier.isFinal(modifiers));
        Check.yes("it extends nothing", PeerLine.class.getSuperclass() == Object.class);
        Check.same("it implements", PeerLine.class.getInterfaces().length, 0);
        methods();
        constructorsAndFields();
        classesInside();
        words();
        Check.done();
    }

    private static void methods() {
        Set<String> found = new TreeSet<>();
        Set<String> hidden = new TreeSet<>();
        for (Method method : PeerLine.class.getDeclaredMethods()) {
            if (Modifier.isPrivate(method.getModifiers())) {
                hidden.add(method.getName());
                continue;
            }
            StringBuilder face = new StringBuilder(method.getReturnType() + " " + method.getName() + "(");
            for (Class<?> type : method.getParameterTypes()) {
                face.append(face.charAt(face.length() - 1) == '(' ? "" : ",").append(type);
            }
            found.add(face.append(")").toString());
            Check.yes(face + " is public, not static", method.getModifiers() == Modifier.PUBLIC);
        }
        Check.yes("the methods are the document's: " + found, found.equals(FACE));
        for (Method method : PeerLine.class.getMethods()) {
            Check.no("private method with the public name " + method.getName(), hidden.contains(method.getName()));
        }
    }

    private static void constructorsAndFields() {
        Constructor<?>[] constructors = PeerLine.class.getDeclaredConstructors();
        Check.same("constructors", constructors.length, 1);
        Check.yes("it is public and takes nothing", constructors[0].getModifiers() == Modifier.PUBLIC
                && constructors[0].getParameterCount() == 0);
        for (Field field : PeerLine.class.getDeclaredFields()) {
            boolean isNone = field.getName().equals("NONE");
            boolean isConstant = field.getModifiers() == (Modifier.PUBLIC | Modifier.STATIC | Modifier.FINAL);
            Check.yes("field " + field.getName(), isNone ? isConstant : Modifier.isPrivate(field.getModifiers()));
            Check.yes("NONE is an int", !isNone || field.getType() == int.class);
        }
        Check.same("NONE", PeerLine.NONE, -1);
        staticFields(PeerLine.class);
    }

    /** Objects have nothing in common but constants: a static row would be shared by all of them. */
    private static void staticFields(Class<?> of) {
        int own = 0;
        for (Field field : of.getDeclaredFields()) {
            boolean isStatic = Modifier.isStatic(field.getModifiers());
            own += isStatic ? 0 : 1;
            Check.yes("static field " + of.getName() + "." + field.getName(), !isStatic
                    || Modifier.isFinal(field.getModifiers()) && CONSTANTS.contains(field.getType()));
        }
        Check.yes("fields of " + of.getName() + " beside its constants: " + own, own <= 20);
    }

    private static void classesInside() {
        Class<?>[] inside = PeerLine.class.getDeclaredClasses();
        Check.yes("classes of the file: " + (inside.length + 1), inside.length + 1 <= 12);
        for (Class<?> one : inside) {
            int modifiers = one.getModifiers();
            Check.yes(one.getName() + " is static", Modifier.isStatic(modifiers));
            Check.no(one.getName() + " is seen outside", Modifier.isPublic(modifiers) || Modifier.isProtected(modifiers));
            staticFields(one);
            for (Method method : one.getDeclaredMethods()) {
                Check.yes(one.getName() + "." + method.getName() + " takes at most seven", method.getParameterCount() <= 7);
            }
        }
    }

    private static void words() throws IOException {
        String source = Files.readString(Path.of("src/main/java/PeerLine.java"));
        String code = source.replaceAll("(?s)/\\*.*?\\*/", " ").replaceAll("//[^\n]*", " ");
        Matcher matcher = Pattern.compile(RULED_OUT).matcher(code);
        while (matcher.find()) {
            Check.no("the source has " + matcher.group(), true);
        }
        Matcher imports = Pattern.compile("import\\s+([^;]+);").matcher(code);
        while (imports.find()) {
            Check.yes("import " + imports.group(1), Set.of("java.util.Arrays", "java.util.ArrayList", "java.util.List").contains(imports.group(1)));
        }
    }
}
