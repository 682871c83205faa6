import java.io.IOException;
import java.lang.reflect.Constructor;
import java.lang.reflect.Field;
import java.lang.reflect.Method;
import java.lang.reflect.Modifier;
import java.nio.file.Files;
import java.nio.file.Path;
import java.util.ArrayList;
import java.util.HashSet;
import java.util.List;
import java.util.Set;
import java.util.TreeSet;

/** The class has the face that the document writes out, and nothing more is to be seen of it. */
public final class FaceTest {
    public static void main(String[] args) throws IOException {
        Check.isTrue("the class is public and final",
                Modifier.isPublic(Pegdraw.class.getModifiers()) && Modifier.isFinal(Pegdraw.class.getModifiers()));
        Set<String> due = faceOfDocument();
        Check.due("methods and constructors in the document's face", due.size(), 51);
        Check.due("the face", seenFace().toString().equals(due.toString()), true);
        for (String line : due) {
            Check.isTrue("the class has " + line, seenFace().contains(line));
        }
        for (String line : seenFace()) {
            Check.isTrue("the document has " + line, due.contains(line));
        }
        nothingElseIsVisible();
        Check.end();
    }

    private static Set<String> faceOfDocument() throws IOException {
        Set<String> face = new TreeSet<>();
        boolean within = false;
        for (String line : Files.readAllLines(Path.of("../shared/DOC.md"))) {
            if (line.startsWith("public final class Pegdraw")) {
                within = true;
            } else if (line.startsWith("}")) {
                within = false;
            } else if (within) {
                face.add(withoutNames(line.trim()));
            }
        }
        return face;
    }

    private static String withoutNames(String line) {
        int open = line.indexOf('(');
        int close = line.indexOf(')');
        List<String> types = new ArrayList<>();
        for (String parameter : line.substring(open + 1, close).split(", ")) {
            types.add(parameter.split(" ")[0]);
        }
        return line.substring(0, open + 1) + String.join(", ", types) + line.substring(close, line.length() - 1);
    }

    private static Set<String> seenFace() {
        Set<String> face = new TreeSet<>();
        for (Constructor<?> one : Pegdraw.class.getConstructors()) {
            face.add("public Pegdraw(" + names(one.getParameterTypes()) + ")");
        }
        for (Method one : Pegdraw.class.getDeclaredMethods()) {
            if (Modifier.isPublic(one.getModifiers())) {
                String thrown = names(one.getExceptionTypes());
                face.add("public " + one.getReturnType().getSimpleName() + " " + one.getName() + "("
                        + names(one.getParameterTypes()) + ")" + (thrown.isEmpty() ? "" : " throws " + thrown));
            }
        }
        return face;
    }

    private static String names(Class<?>[] types) {
        List<String> names = new ArrayList<>();
        for (Class<?> one : types) {
            names.add(one.getSimpleName());
        }
        return String.join(", ", names);
    }

    private static void nothingElseIsVisible() {
        Set<String> publicNames = new HashSet<>();
        for (Method one : Pegdraw.class.getDeclaredMethods()) {
            if (Modifier.isPublic(one.getModifiers())) {
                publicNames.add(one.getName());
            }
        }
        for (Method one : Pegdraw.class.getDeclaredMethods()) {
            if (!Modifier.isPublic(one.getModifiers())) {
                Check.isTrue(one.getName() + " is private", Modifier.isPrivate(one.getModifiers()));
                Check.isTrue(one.getName() + " bears no public name", !publicNames.contains(one.getName()));
            }
        }
        for (Field one : Pegdraw.class.getDeclaredFields()) {
            Check.isTrue("field " + one.getName() + " is private", Modifier.isPrivate(one.getModifiers()));
        }
        for (Class<?> inner : Pegdraw.class.getDeclaredClasses()) {
            for (Method one : inner.getDeclaredMethods()) {
                Check.isTrue(inner.getSimpleName() + "." + one.getName() + " bears no public name",
                        !publicNames.contains(one.getName()));
            }
        }
    }
}
