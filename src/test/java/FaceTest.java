import java.io.IOException;
import java.lang.reflect.Constructor;
import java.lang.reflect.Field;
import java.lang.reflect.Method;
import java.lang.reflect.Modifier;
import java.nio.file.Files;
import java.nio.file.Path;
import java.util.List;
import java.util.Set;
import java.util.TreeSet;

/** The public face: just what the document writes, and nothing else that can be seen. */
public final class FaceTest {
    private static final Checks check = new Checks("FaceTest");

    public static void main(String[] args) throws IOException {
        Set<String> due = dueFace();
        Set<String> got = new TreeSet<>();
        Set<String> names = new TreeSet<>();
        for (Method method : Overlayer.class.getDeclaredMethods()) {
            if (!Modifier.isPrivate(method.getModifiers()) && !method.isSynthetic()) {
                got.add(written(method));
                names.add(method.getName());
            }
        }
        check.due(40, due::size, "methods of the document, one for each promise but the first");
        for (String each : due) {
            check.holds(got.contains(each), "there is " + each);
        }
        for (String each : got) {
            check.holds(due.contains(each), "the document has " + each);
        }
        classAndConstructor();
        nothingElse(names);
        check.end();
    }

    private static Set<String> dueFace() throws IOException {
        List<String> lines = Files.readAllLines(Path.of("../shared/DOC.md"));
        Set<String> due = new TreeSet<>();
        boolean isFace = false;
        for (String line : lines) {
            isFace = line.startsWith("## ") ? line.equals("## The public face") : isFace;
            if (isFace && line.startsWith("    public ") && !line.contains("Overlayer()")) {
                String signature = line.trim().replace(";", "");
                int open = signature.indexOf('(');
                int close = signature.indexOf(')');
                String parameters = signature.substring(open + 1, close)
                        .replaceAll("(\\w+) \\w+(, )?", "$1 ").trim();
                due.add(signature.substring(0, open) + "(" + parameters + ")"
                        + signature.substring(close + 1));
            }
        }
        return due;
    }

    private static String written(Method method) {
        StringBuilder text = new StringBuilder(Modifier.toString(method.getModifiers()));
        text.append(' ').append(method.getReturnType()).append(' ').append(method.getName());
        text.append('(').append(joined(method.getParameterTypes(), " ")).append(')');
        if (method.getExceptionTypes().length > 0) {
            text.append(" throws ").append(joined(method.getExceptionTypes(), ", "));
        }
        return text.toString();
    }

    private static String joined(Class<?>[] types, String between) {
        StringBuilder text = new StringBuilder();
        for (Class<?> type : types) {
            text.append(text.length() > 0 ? between : "").append(type.getSimpleName());
        }
        return text.toString();
    }

    private static void classAndConstructor() {
        int modifiers = Overlayer.class.getModifiers();
        check.holds(modifiers == (Modifier.PUBLIC | Modifier.FINAL), "the class is public final");
        Constructor<?>[] made = Overlayer.class.getDeclaredConstructors();
        check.holds(made.length == 1 && made[0].getModifiers() == Modifier.PUBLIC
                && made[0].getParameterCount() == 0, "one public constructor, of nothing");
    }

    /** By rule 1 of the language: nothing else is seen, and no private method has such a name. */
    private static void nothingElse(Set<String> names) {
        for (Field field : Overlayer.class.getDeclaredFields()) {
            check.holds(Modifier.isPrivate(field.getModifiers()), field + " is private");
        }
        noPrivateNames(Overlayer.class, names);
        for (Class<?> inside : Overlayer.class.getDeclaredClasses()) {
            int modifiers = inside.getModifiers();
            boolean isHidden = !Modifier.isPublic(modifiers) && !Modifier.isProtected(modifiers);
            check.holds(isHidden && Modifier.isStatic(modifiers), inside + " is hidden and static");
            noPrivateNames(inside, names);
        }
    }

    private static void noPrivateNames(Class<?> holder, Set<String> names) {
        for (Method method : holder.getDeclaredMethods()) {
            boolean isPrivate = Modifier.isPrivate(method.getModifiers()) && !method.isSynthetic();
            check.holds(!isPrivate || !names.contains(method.getName()), method + " has a new name");
        }
    }
}
