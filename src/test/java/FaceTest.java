import java.io.IOException;
import java.lang.reflect.Constructor;
import java.lang.reflect.Field;
import java.lang.reflect.Method;
import java.lang.reflect.Modifier;
import java.nio.charset.StandardCharsets;
import java.nio.file.Files;
import java.nio.file.Path;
import java.util.ArrayList;
import java.util.HashSet;
import java.util.List;
import java.util.Set;
import java.util.TreeSet;
import java.util.regex.Matcher;
import java.util.regex.Pattern;

/** The face of the class is that of the document, no more; its source keeps to LANGUAGE.md as far as a glance tells. */
public final class FaceTest {
    private static final Checks CHECKS = new Checks();
    private static final Path DOCUMENT = Path.of("../shared/DOC.md");
    private static final Path SOURCE = Path.of("src/main/java/SlideMills.java");

    public static void main(String[] args) throws IOException {
        faceIsTheDocuments();
        nothingElseIsSeen();
        noPrivateMethodHasAPublicName();
        sizes();
        sourceIsPlain();
        CHECKS.end();
    }

    private static void faceIsTheDocuments() throws IOException {
        Set<String> due = new TreeSet<>();
        String document = Files.readString(DOCUMENT, StandardCharsets.UTF_8);
        String face = document.substring(document.indexOf("```java"), document.indexOf("## Terms"));
        Matcher lines = Pattern.compile("public (\\w+ )?(\\w+)\\((.*?)\\)( throws (.*?))?;").matcher(face);
        while (lines.find()) {
            String types = lines.group(3).replaceAll("(\\w+) \\w+", "$1");
            String thrown = lines.group(5) == null ? "" : lines.group(5);
            due.add((lines.group(1) == null ? "" : lines.group(1)) + lines.group(2) + "(" + types + ") " + thrown);
        }
        Set<String> got = new TreeSet<>();
        for (Constructor<?> constructor : SlideMills.class.getDeclaredConstructors()) {
            got.add(constructor.getName() + "() " + names(constructor.getExceptionTypes()));
        }
        for (Method method : SlideMills.class.getDeclaredMethods()) {
            if (Modifier.isPublic(method.getModifiers())) {
                got.add(method.getReturnType().getSimpleName() + " " + method.getName() + "("
                        + names(method.getParameterTypes()) + ") " + names(method.getExceptionTypes()));
            }
        }
        CHECKS.same("the face", due, got);
        CHECKS.same("calls of the face", 54, got.size());
    }

    private static String names(Class<?>[] types) {
        List<String> names = new ArrayList<>();
        for (Class<?> type : types) {
            names.add(type.getSimpleName());
        }
        return String.join(", ", names);
    }

    private static void nothingElseIsSeen() {
        CHECKS.same("public and final", Modifier.PUBLIC | Modifier.FINAL, SlideMills.class.getModifiers());
        for (Field field : SlideMills.class.getDeclaredFields()) {
            CHECKS.same(field.getName() + " is private", true, Modifier.isPrivate(field.getModifiers()));
        }
        for (Method method : SlideMills.class.getDeclaredMethods()) {
            int modifiers = method.getModifiers();
            CHECKS.same(method.getName() + " is public or private", true,
                    Modifier.isPublic(modifiers) || Modifier.isPrivate(modifiers));
        }
        for (Class<?> inner : SlideMills.class.getDeclaredClasses()) {
            CHECKS.same(inner.getName() + " is private and static", Modifier.PRIVATE | Modifier.STATIC,
                    inner.getModifiers() & (Modifier.PRIVATE | Modifier.STATIC));
        }
    }

    private static void noPrivateMethodHasAPublicName() {
        Set<String> face = new HashSet<>();
        for (Method method : SlideMills.class.getDeclaredMethods()) {
            if (Modifier.isPublic(method.getModifiers())) {
                face.add(method.getName());
            }
        }
        List<Method> others = new ArrayList<>();
        for (Method method : SlideMills.class.getDeclaredMethods()) {
            if (!Modifier.isPublic(method.getModifiers())) {
                others.add(method);
            }
        }
        for (Class<?> inner : SlideMills.class.getDeclaredClasses()) {
            others.addAll(List.of(inner.getDeclaredMethods()));
        }
        for (Method method : others) {
            CHECKS.same(method.getName() + " is a name of the face", false, face.contains(method.getName()));
        }
    }

    private static void sizes() {
        List<Class<?>> classes = new ArrayList<>(List.of(SlideMills.class.getDeclaredClasses()));
        classes.add(SlideMills.class);
        CHECKS.same("at most twelve classes", true, classes.size() <= 12);
        for (Class<?> each : classes) {
            int fields = 0;
            for (Field field : each.getDeclaredFields()) {
                boolean constant = Modifier.isStatic(field.getModifiers());
                fields += constant ? 0 : 1;
                CHECKS.same(field + " is final if static", true,
                        !constant || Modifier.isFinal(field.getModifiers()));
            }
            CHECKS.same(each.getName() + " has at most twenty fields", true, fields <= 20);
            for (Method method : each.getDeclaredMethods()) {
                CHECKS.same(method + " takes at most seven", true, method.getParameterCount() <= 7);
            }
        }
    }

    private static void sourceIsPlain() throws IOException {
        String source = Files.readString(SOURCE, StandardCharsets.UTF_8);
        for (int i = 0; i < source.length(); i++) {
            if (source.charAt(i) > 126) {
                CHECKS.same("sign at " + i, "1 to 126", (int) source.charAt(i));
            }
        }
        String code = source.replaceAll("(?s)/\\*.*?\\*/", "").replaceAll("//[^\\n]*", "")
                .replaceAll("\"[^\"]*\"", "\"\"");
        String[] forbidden = {"\\bpackage\\b", "\\bimport\\b", "->", "::", "\\bassert\\b", "\\bsynchronized\\b",
            "\\bfinally\\b", "\\bcatch\\b", "\\bSystem\\.(?!arraycopy)", "\\bMath\\.(?!min|max|abs)",
            "\\bDouble\\b", "\\bInteger\\.(?!compare|max|min)", "\\bObject\\b", "\\btoString\\b", "\\bvar\\b",
            "\\bwhile \\(true\\)", "\\bfor \\(;;\\)"};
        for (String pattern : forbidden) {
            CHECKS.same("stands in the source: " + pattern, false, Pattern.compile(pattern).matcher(code).find());
        }
        int length = 0;
        for (String line : source.split("\n")) {
            length = line.matches("( {4}| {8})\\S.*\\{") ? 0 : length + 1;
            if (line.matches("( {4}| {8})\\}")) {
                CHECKS.same("a method of " + length + " lines is short", true, length <= 60);
            }
        }
    }
}
