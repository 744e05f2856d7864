import java.io.IOException;
import java.lang.reflect.Constructor;
import java.lang.reflect.Field;
import java.lang.reflect.Method;
import java.lang.reflect.Modifier;
import java.nio.file.Files;
import java.nio.file.Path;
import java.util.Arrays;
import java.util.TreeSet;
import java.util.regex.Matcher;
import java.util.regex.Pattern;

/** The face of the class is that of the document, and its text keeps to what ../shared/LANGUAGE.md leaves. */
public final class LanguageTest {
    private static final Checks checks = new Checks("LanguageTest");

    public static void main(String[] args) throws IOException {
        Path doc = Path.of("../shared/DOC.md");
        String face = Files.readString(doc).split("```java")[1].split("```")[0];
        theFace(face);
        theText(Files.readString(Path.of("src/main/java/Barrierbrook.java")));
        checks.end();
    }

    private static void theFace(String face) {
        TreeSet<String> due = new TreeSet<>();
        Matcher calls = Pattern.compile("public (?:\\w+ )?(\\w+)\\(([^)]*)\\)( throws [\\w, ]+)?;").matcher(face);
        while (calls.find()) {
            StringBuilder types = new StringBuilder();
            for (String part : calls.group(2).split(",")) types.append(part.trim().split(" ")[0]).append(' ');
            due.add(calls.group(1) + " " + types.toString().trim());
        }
        TreeSet<String> there = new TreeSet<>();
        TreeSet<String> names = new TreeSet<>();
        for (Method m : Barrierbrook.class.getDeclaredMethods()) {
            if (Modifier.isPublic(m.getModifiers())) {
                names.add(m.getName());
                there.add((m.getName() + " " + types(m.getParameterTypes())).trim());
            }
        }
        for (Constructor<?> c : Barrierbrook.class.getDeclaredConstructors()) {
            there.add(("Barrierbrook " + types(c.getParameterTypes())).trim());
        }
        checks.same("the methods", there.toString(), due.toString().replace(" ,", ",").replace(" ]", "]"));
        for (Method m : Barrierbrook.class.getDeclaredMethods()) {
            boolean isPublic = Modifier.isPublic(m.getModifiers());
            checks.yes(m.getName() + " is public or private", isPublic || Modifier.isPrivate(m.getModifiers()));
            checks.yes(m.getName() + " bears no name of the face", isPublic || !names.contains(m.getName()));
        }
        for (Field f : Barrierbrook.class.getDeclaredFields()) {
            boolean isConstant = face.contains(f.getName() + " =");
            checks.same(f.getName() + " is public", Modifier.isPublic(f.getModifiers()) ? 1 : 0, isConstant ? 1 : 0);
            checks.yes(f.getName() + " is private or public", isConstant || Modifier.isPrivate(f.getModifiers()));
            checks.yes(f.getName() + ", if static, is final", !Modifier.isStatic(f.getModifiers())
                || Modifier.isFinal(f.getModifiers()));
        }
        for (Class<?> c : Barrierbrook.class.getDeclaredClasses()) {
            checks.yes(c.getName() + " is private and static", Modifier.isPrivate(c.getModifiers())
                && Modifier.isStatic(c.getModifiers()));
            for (Method m : c.getDeclaredMethods()) {
                checks.no(c.getName() + "." + m.getName() + " bears a name of the face", names.contains(m.getName()));
            }
            checks.yes(c.getName() + " has some twenty fields", c.getDeclaredFields().length <= 20);
        }
        checks.yes("some twelve classes", Barrierbrook.class.getDeclaredClasses().length <= 11);
    }

    private static String types(Class<?>[] types) {
        StringBuilder all = new StringBuilder();
        for (Class<?> t : types) all.append(t.getSimpleName()).append(' ');
        return all.toString().trim();
    }

    private static void theText(String text) {
        String[] forbidden = {"->", "::", "@", "Exact", "finally", "synchronized", "assert ", "catch", "package ",
            "Random", "Thread", "System.currentTimeMillis", "nanoTime", "System.out", "getClass", "equals(",
            "hashCode", "toString", "\" +", "+ \"", "RuntimeException", "ArrayIndexOutOfBounds", "NullPointer",
            "static {", "MIN_VALUE", "MAX_VALUE"};
        String code = text.replaceAll("//[^\n]*", "").replaceAll("(?s)/\\*.*?\\*/", "");
        for (String word : forbidden) checks.no("the code holds '" + word + "'", code.contains(word));
        Matcher imports = Pattern.compile("import ([^;]*);").matcher(code);
        while (imports.find()) checks.same("an import", imports.group(1), "java.util.Arrays");
        Matcher thrown = Pattern.compile("throw ([^(]*)\\(").matcher(code);
        while (thrown.find()) {
            checks.yes("thrown: " + thrown.group(1), Arrays.asList("new IllegalStateException",
                "new IllegalArgumentException", "new IndexOutOfBoundsException").contains(thrown.group(1)));
        }
        int length = 0;
        for (String line : code.split("\n")) {
            boolean isHead = line.matches(" {4}(?: {4})?\\S.*\\{") && !line.contains("class ");
            length = isHead ? 0 : length + 1;
            checks.yes("methods are short: " + line.trim(), length <= 60 || line.isBlank() || !line.startsWith("        "));
        }
    }
}
