import java.io.IOException;
import java.lang.reflect.Constructor;
import java.lang.reflect.Field;
import java.lang.reflect.Method;
import java.lang.reflect.Modifier;
import java.nio.file.Files;
import java.nio.file.Path;
import java.util.ArrayList;
import java.util.List;
import java.util.Set;
import java.util.TreeSet;

/**
 * The public face is the document's and nothing more: what of the class can be seen from outside it is
 * held against the lines below, and these against the ones that stand in ../shared/DOC.md.
 */
public final class FaceTest {
    private static final Path DOCUMENT = Path.of("../shared/DOC.md");
    private static final List<String> FACE = List.of(
        "public static final int NONE = -1;",
        "public RowModels();",
        "public int name(int n);",
        "public int row();",
        "public int choice();",
        "public boolean often(int how);",
        "public int clear();",
        "public int make();",
        "public int size(int m);",
        "public boolean isDeterministic(int m);",
        "public boolean begin(int m);",
        "public int read(int n);",
        "public boolean isWhole();",
        "public boolean can(int n);",
        "public int next(int k);",
        "public int back();");
    private static int wrong = 0;
    private static int checks = 0;

    public static void main(String[] args) throws IOException, IllegalAccessException {
        theClass();
        whatCanBeSeen();
        whatIsInside();
        noStateIsShared();
        theDocument();
        System.out.println(wrong == 0 ? "all " + checks + " answers are as due" : wrong + " answers are not as due");
        if (wrong != 0) {
            System.exit(1);
        }
    }

    private static void due(String what, Object got, Object want) {
        checks++;
        if (!got.equals(want)) {
            wrong++;
            System.out.println(what + " is " + got + ", due is " + want);
        }
    }

    private static void theClass() {
        due("the class", RowModels.class.toGenericString(), "public final class RowModels");
        due("the class above it", RowModels.class.getSuperclass(), Object.class);
        due("how many interfaces it has", RowModels.class.getInterfaces().length, 0);
    }

    /** The lines of the face, as the class file tells them: it does not keep the parameters' names. */
    private static Set<String> due() {
        Set<String> lines = new TreeSet<>();
        for (String line : FACE) {
            lines.add(line.replaceAll("int \\w+\\)", "int)"));
        }
        return lines;
    }

    private static boolean isHidden(int modifiers, boolean synthetic) {
        return Modifier.isPrivate(modifiers) || synthetic;
    }

    private static void whatCanBeSeen() throws IllegalAccessException {
        Set<String> seen = new TreeSet<>();
        for (Field f : RowModels.class.getDeclaredFields()) {
            if (!isHidden(f.getModifiers(), f.isSynthetic())) {
                String value = Modifier.isStatic(f.getModifiers()) ? " = " + f.get(null) : "";
                seen.add(f.toGenericString().replace("RowModels.", "") + value + ";");
            }
        }
        for (Constructor<?> c : RowModels.class.getDeclaredConstructors()) {
            if (!isHidden(c.getModifiers(), c.isSynthetic())) {
                seen.add(c.toGenericString() + ";");
            }
        }
        for (Method m : RowModels.class.getDeclaredMethods()) {
            if (!isHidden(m.getModifiers(), m.isSynthetic())) {
                seen.add(m.toGenericString().replace("RowModels.", "") + ";");
            }
        }
        due("the face", seen, due());
    }

    private static void whatIsInside() {
        Set<String> names = new TreeSet<>();
        for (Method m : RowModels.class.getMethods()) {
            names.add(m.getName());
        }
        List<Class<?>> all = new ArrayList<>(List.of(RowModels.class.getDeclaredClasses()));
        for (Class<?> inside : all) {
            int modifiers = inside.getModifiers();
            due(inside + " is static", Modifier.isStatic(modifiers), true);
            due(inside + " is public or protected",
                Modifier.isPublic(modifiers) || Modifier.isProtected(modifiers), false);
        }
        all.add(RowModels.class);
        for (Class<?> one : all) {
            for (Method m : one.getDeclaredMethods()) {
                if (Modifier.isPrivate(m.getModifiers())) {
                    due(m + " bears the name of a public one", names.contains(m.getName()), false);
                }
            }
        }
    }

    private static void noStateIsShared() {
        List<Class<?>> all = new ArrayList<>(List.of(RowModels.class.getDeclaredClasses()));
        all.add(RowModels.class);
        for (Class<?> one : all) {
            for (Field f : one.getDeclaredFields()) {
                if (Modifier.isStatic(f.getModifiers()) && !f.isSynthetic()) {
                    due(f + " is final", Modifier.isFinal(f.getModifiers()), true);
                }
            }
        }
    }

    private static void theDocument() throws IOException {
        if (!Files.isReadable(DOCUMENT)) {
            System.out.println("(" + DOCUMENT + " is not here: the face is not held against it)");
            return;
        }
        List<String> lines = new ArrayList<>();
        boolean inside = false;
        for (String line : Files.readAllLines(DOCUMENT)) {
            if (line.startsWith("```")) {
                inside = line.equals("```java");
            } else if (inside) {
                lines.add(line.trim());
            }
        }
        List<String> want = new ArrayList<>(List.of("public final class RowModels {"));
        want.addAll(FACE);
        want.add("}");
        due("the document's face", lines, want);
    }
}
