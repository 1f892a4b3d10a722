import java.lang.reflect.Constructor;
import java.lang.reflect.Field;
import java.lang.reflect.Method;
import java.lang.reflect.Modifier;
import java.nio.file.Files;
import java.nio.file.Path;
import java.util.ArrayList;
import java.util.Arrays;
import java.util.Collections;
import java.util.List;

/** The face is the one that the document writes out, and what LANGUAGE.md counts is within its bounds. */
public final class FaceTest {
    private static final Checks CHECKS = new Checks();

    public static void main(String[] args) throws Exception {
        CHECKS.says("The public face", "public final class SolidFolder {", FaceTest::testFace);
        CHECKS.says("LANGUAGE.md 1", "no other public, protected or package-visible member", FaceTest::testMembers);
        CHECKS.says("LANGUAGE.md 1", "No private method bears the name of a public one.", FaceTest::testNames);
        CHECKS.says("LANGUAGE.md 5", "Static fields are final", FaceTest::testStaticFields);
        CHECKS.says("LANGUAGE.md 11", "A method takes at most seven parameters.", FaceTest::testCounts);
        CHECKS.end();
    }

    private static boolean isPrivate(int modifiers) {
        return Modifier.isPrivate(modifiers);
    }

    private static List<Class<?>> classes() {
        List<Class<?>> classes = new ArrayList<>(List.of(SolidFolder.class));
        classes.addAll(Arrays.asList(SolidFolder.class.getDeclaredClasses()));
        return classes;
    }

    // ---- as the document writes it

    private static void testFace() throws Exception {
        List<String> due = new ArrayList<>();
        List<String> lines = Files.readAllLines(Path.of("../shared/DOC.md"));
        int from = lines.indexOf("public final class SolidFolder {") + 1;
        for (int k = from; !lines.get(k).equals("}"); k++) {
            due.add(withoutNames(lines.get(k).trim()));
        }
        List<String> got = new ArrayList<>();
        for (Constructor<?> made : SolidFolder.class.getDeclaredConstructors()) {
            got.add(plain(made.toGenericString()));
        }
        for (Method method : SolidFolder.class.getDeclaredMethods()) {
            if (!isPrivate(method.getModifiers())) {
                got.add(plain(method.toGenericString()));
            }
        }
        Collections.sort(due);
        Collections.sort(got);
        CHECKS.equal("the face", String.join("\n", got), String.join("\n", due));
        CHECKS.equal("the class", Modifier.toString(SolidFolder.class.getModifiers()), "public final");
    }

    /** "int give(long bytes, int n) throws E;" becomes "int give(long,int) throws E". */
    private static String withoutNames(String signature) {
        int open = signature.indexOf('(');
        int close = signature.indexOf(')');
        String inside = signature.substring(open, close).replaceAll(" \\w+(,|$)", "$1").replace(", ", ",");
        return plain(signature.substring(0, open) + inside + signature.substring(close));
    }

    private static String plain(String signature) {
        return signature.replace("SolidFolder.", "").replace("java.util.", "").replace("java.lang.", "")
                .replace(", ", ",").replace(";", "");
    }

    // ---- as LANGUAGE.md asks

    private static void testMembers() {
        for (Field field : SolidFolder.class.getDeclaredFields()) {
            CHECKS.holds("field " + field.getName() + " is private", isPrivate(field.getModifiers()));
        }
        for (Class<?> inside : SolidFolder.class.getDeclaredClasses()) {
            int modifiers = inside.getModifiers();
            CHECKS.holds(inside.getName() + " is static", Modifier.isStatic(modifiers));
            CHECKS.holds(inside.getName() + " is not seen from outside",
                    !Modifier.isPublic(modifiers) && !Modifier.isProtected(modifiers));
        }
    }

    private static void testNames() {
        List<String> face = new ArrayList<>();
        for (Method method : SolidFolder.class.getDeclaredMethods()) {
            if (!isPrivate(method.getModifiers())) {
                CHECKS.holds(method.getName() + " is there once", !face.contains(method.getName()));
                face.add(method.getName());
            }
        }
        for (Class<?> one : classes()) {
            for (Method method : one.getDeclaredMethods()) {
                boolean isFace = one == SolidFolder.class && !isPrivate(method.getModifiers());
                CHECKS.holds(one.getName() + "." + method.getName() + " has a name of its own",
                        isFace || !face.contains(method.getName()));
            }
        }
    }

    private static void testStaticFields() {
        for (Class<?> one : classes()) {
            for (Field field : one.getDeclaredFields()) {
                int modifiers = field.getModifiers();
                CHECKS.holds(one.getName() + "." + field.getName() + " is final if it is static",
                        !Modifier.isStatic(modifiers) || Modifier.isFinal(modifiers));
            }
        }
    }

    private static void testCounts() {
        CHECKS.holds("there are at most twelve classes", classes().size() <= 12);
        for (Class<?> one : classes()) {
            int fields = 0;
            for (Field field : one.getDeclaredFields()) {
                fields += Modifier.isStatic(field.getModifiers()) ? 0 : 1;
            }
            CHECKS.holds(one.getName() + " has at most twenty fields", fields <= 20);
            for (Method method : one.getDeclaredMethods()) {
                CHECKS.holds(one.getName() + "." + method.getName() + " takes at most seven",
                        method.getParameterCount() <= 7);
            }
        }
    }
}
