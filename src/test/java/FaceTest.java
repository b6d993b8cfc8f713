import java.lang.reflect.Constructor;
import java.lang.reflect.Field;
import java.lang.reflect.Method;
import java.lang.reflect.Modifier;
import java.nio.file.Files;
import java.nio.file.Path;
import java.util.ArrayList;
import java.util.HashSet;
import java.util.List;
import java.util.Set;

/** The public face is the one of the document, and nothing else of the class can be seen. */
final class FaceTest {
    public static void main(String[] args) throws Exception {
        Set<String> due = dueMethods();
        Check.equal(63, due.size());
        Set<String> names = new HashSet<>();
        Set<String> seen = new HashSet<>();
        for (Method method : Hobhouse.class.getDeclaredMethods()) {
            if (Modifier.isPublic(method.getModifiers())) {
                seen.add(signature(method));
                names.add(method.getName());
            }
        }
        Check.equal(due, seen);
        noOther(Hobhouse.class, names);
        for (Class<?> inside : Hobhouse.class.getDeclaredClasses()) {
            Check.equal(true, Modifier.isStatic(inside.getModifiers()));
            Check.equal(false, Modifier.isPublic(inside.getModifiers()));
            for (Method method : inside.getDeclaredMethods()) {
                Check.equal(method + " false", method + " " + names.contains(method.getName()));
            }
        }
        Check.equal(true, Modifier.isFinal(Hobhouse.class.getModifiers()));
        Constructor<?>[] constructors = Hobhouse.class.getDeclaredConstructors();
        Check.equal(1, constructors.length);
        Check.equal(0, constructors[0].getParameterCount());
        Check.equal(true, Modifier.isPublic(constructors[0].getModifiers()));
        Check.end();
    }

    private static void noOther(Class<?> type, Set<String> names) {
        for (Method method : type.getDeclaredMethods()) {
            boolean isPublic = Modifier.isPublic(method.getModifiers());
            Check.equal(method + " true", method + " " + (isPublic || Modifier.isPrivate(method.getModifiers())));
            Check.equal(method + " true", method + " " + (isPublic || !names.contains(method.getName())));
        }
        for (Field field : type.getDeclaredFields()) {
            Check.equal(field + " true", field + " " + Modifier.isPrivate(field.getModifiers()));
        }
    }

    /** A signature as the document writes it, less the names of the arguments. */
    private static String signature(Method method) {
        List<String> types = new ArrayList<>();
        for (Class<?> type : method.getParameterTypes()) {
            types.add(type.getSimpleName());
        }
        List<String> thrown = new ArrayList<>();
        for (Class<?> type : method.getExceptionTypes()) {
            thrown.add(type.getSimpleName());
        }
        return method.getReturnType().getSimpleName() + " " + method.getName() + types + thrown;
    }

    private static Set<String> dueMethods() throws Exception {
        Set<String> due = new HashSet<>();
        for (String line : Files.readAllLines(Path.of("../shared/DOC.md"))) {
            String text = line.trim();
            if (text.startsWith("public ") && text.contains(" ") && text.endsWith(";") && !text.contains("Hobhouse()")) {
                int open = text.indexOf('(');
                int close = text.indexOf(')');
                List<String> types = new ArrayList<>();
                for (String argument : text.substring(open + 1, close).split(",")) {
                    if (!argument.isBlank()) {
                        types.add(argument.trim().split(" ")[0]);
                    }
                }
                List<String> thrown = new ArrayList<>();
                String rest = text.substring(close + 1, text.length() - 1).replace("throws", "");
                for (String name : rest.split(",")) {
                    if (!name.isBlank()) {
                        thrown.add(name.trim());
                    }
                }
                due.add(text.substring("public ".length(), open) + types + thrown);
            }
        }
        return due;
    }
}
