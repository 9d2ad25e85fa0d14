import java.io.IOException;
import java.lang.reflect.Constructor;
import java.lang.reflect.Field;
import java.lang.reflect.Method;
import java.lang.reflect.Modifier;
import java.nio.file.Files;
import java.nio.file.Path;
import java.util.TreeSet;

/** The public face is the document's, to the letter, and nothing else can be seen from outside. */
public final class FaceTest {
    public static void main(String[] args) throws IOException {
        TreeSet<String> due = facesOfDocument();
        TreeSet<String> got = facesOfClass();
        int wrong = 0;
        for (String face : due) {
            if (!got.contains(face)) {
                wrong++;
                System.out.println("missing: " + face);
            }
        }
        for (String face : got) {
            if (!due.contains(face)) {
                wrong++;
                System.out.println("not in the document: " + face);
            }
        }
        System.out.println(due.size() + " members compared, " + wrong + " wrong");
        if (wrong != 0 || due.size() != 81) {
            System.exit(1);
        }
    }

    private static TreeSet<String> facesOfDocument() throws IOException {
        TreeSet<String> faces = new TreeSet<>();
        for (String line : Files.readAllLines(Path.of("../shared/DOC.md"))) {
            if (!line.startsWith("    public ") || !line.endsWith(";")) {
                continue;
            }
            String face = line.trim().replace(";", "");
            face = face.replaceAll("(int|long) [a-z]+(?=[,)])", "$1");
            faces.add(face.replace(" = -1", ""));
        }
        return faces;
    }

    private static TreeSet<String> facesOfClass() {
        TreeSet<String> faces = new TreeSet<>();
        for (Method method : MergeJudge.class.getDeclaredMethods()) {
            if (!Modifier.isPrivate(method.getModifiers())) {
                faces.add(Modifier.toString(method.getModifiers()) + " " + method.getReturnType() + " "
                        + method.getName() + params(method.getParameterTypes()));
            }
        }
        for (Constructor<?> constructor : MergeJudge.class.getDeclaredConstructors()) {
            if (!Modifier.isPrivate(constructor.getModifiers())) {
                faces.add("public MergeJudge" + params(constructor.getParameterTypes()));
            }
        }
        for (Field field : MergeJudge.class.getDeclaredFields()) {
            if (!Modifier.isPrivate(field.getModifiers())) {
                faces.add(Modifier.toString(field.getModifiers()) + " " + field.getType() + " " + field.getName());
            }
        }
        return faces;
    }

    private static String params(Class<?>[] types) {
        StringBuilder text = new StringBuilder("(");
        for (Class<?> type : types) {
            text.append(text.length() > 1 ? ", " : "").append(type);
        }
        return text.append(")").toString();
    }
}
