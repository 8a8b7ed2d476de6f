import java.lang.reflect.Constructor;
import java.lang.reflect.Field;
import java.lang.reflect.Method;
import java.lang.reflect.Modifier;
import java.nio.file.Files;
import java.nio.file.Path;
import java.util.Set;
import java.util.TreeSet;
import java.util.regex.Matcher;
import java.util.regex.Pattern;

/** The public face is that of ../shared/DOC.md, word by word, and nothing else of the class is to be seen from outside. */
public final class FaceTest {
    public static void main(String[] args) throws Exception {
        String root = args.length > 0 ? args[0] : ".";
        Check.is("the face", seen().toString(), told(Path.of(root, "..", "shared", "DOC.md")).toString());
        Check.is("the class is final and public", EchoLine.class.getModifiers(), Modifier.PUBLIC | Modifier.FINAL);
        Check.is("NONE", EchoLine.NONE, -1);
        Check.is("PARSE_ERROR", EchoLine.PARSE_ERROR, -4);
        noPrivateMethodBearsAPublicName();
        nestedClassesAreHidden();
        Check.finish();
    }

    private static Set<String> told(Path document) throws Exception {
        String text = Files.readString(document);
        String face = text.substring(text.indexOf("public final class"), text.indexOf("## Terms"));
        Set<String> members = new TreeSet<>();
        Matcher m = Pattern.compile("    public (static final )?([^;]*);").matcher(face);
        while (m.find()) {
            String[] parts = m.group(2).split(" throws ");
            String head = parts[0].replaceAll("(int|boolean) \\w+(?=[,)])", "$1").replaceAll(" = .*", "");
            members.add(head + (parts.length > 1 ? " throws " + parts[1] : ""));
        }
        return members;
    }

    private static Set<String> seen() {
        Set<String> members = new TreeSet<>();
        for (Method m : EchoLine.class.getDeclaredMethods()) {
            if (!Modifier.isPrivate(m.getModifiers())) {
                members.add(m.getReturnType().getName() + " " + m.getName() + list(m.getParameterTypes(), "(", ")")
                    + list(m.getExceptionTypes(), " throws ", ""));
            }
        }
        for (Field f : EchoLine.class.getDeclaredFields()) {
            if (!Modifier.isPrivate(f.getModifiers())) {
                members.add(f.getType().getName() + " " + f.getName());
            }
        }
        for (Constructor<?> c : EchoLine.class.getDeclaredConstructors()) {
            members.add(c.getName() + list(c.getParameterTypes(), "(", ")"));
        }
        return members;
    }

    private static String list(Class<?>[] types, String before, String after) {
        StringBuilder list = new StringBuilder();
        for (Class<?> type : types) {
            list.append(list.length() > 0 ? ", " : "").append(type.getSimpleName());
        }
        return types.length == 0 && after.isEmpty() ? "" : before + list + after;
    }

    private static void noPrivateMethodBearsAPublicName() {
        Set<String> names = new TreeSet<>();
        for (Method m : EchoLine.class.getMethods()) {
            names.add(m.getDeclaringClass() == EchoLine.class ? m.getName() : "");
        }
        for (Class<?> inner : EchoLine.class.getDeclaredClasses()) {
            for (Method m : inner.getDeclaredMethods()) {
                Check.is(inner.getName() + "." + m.getName() + " bears a public name", names.contains(m.getName()), false);
            }
        }
        for (Method m : EchoLine.class.getDeclaredMethods()) {
            boolean hidden = Modifier.isPrivate(m.getModifiers());
            Check.is(m.getName() + " is private and bears a public name", hidden && names.contains(m.getName()), false);
        }
    }

    private static void nestedClassesAreHidden() {
        for (Class<?> inner : EchoLine.class.getDeclaredClasses()) {
            Check.is(inner.getName() + " is private", Modifier.isPrivate(inner.getModifiers()), true);
            Check.is(inner.getName() + " is static", Modifier.isStatic(inner.getModifiers()), true);
        }
    }
}
