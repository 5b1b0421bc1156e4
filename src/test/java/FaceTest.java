import java.io.IOException;
import java.lang.reflect.Constructor;
import java.lang.reflect.Field;
import java.lang.reflect.Method;
import java.lang.reflect.Modifier;
import java.nio.file.Files;
import java.nio.file.Path;
import java.util.ArrayList;
import java.util.List;
import java.util.Set;
import java.util.TreeSet;
import java.util.regex.Matcher;
import java.util.regex.Pattern;

/** The class has just the document's face (LANGUAGE.md, rules 1 and 5), and its file the signs it may have. */
public final class FaceTest {
    private static final Check check = new Check("FaceTest");
    private static final Path DOCUMENT = Path.of("../shared/DOC.md");
    private static final Path SOURCE = Path.of("src/main/java/AfternoonMeter.java");

    public static void main(String[] args) throws IOException {
        faceIsTheDocuments();
        restIsPrivate();
        sourceKeepsToTheRules();
        check.end();
    }

    private static void faceIsTheDocuments() throws IOException {
        Set<String> due = new TreeSet<>();
        Pattern line = Pattern.compile("^    public ([^;]*);$", Pattern.MULTILINE);
        Matcher lines = line.matcher(Files.readString(DOCUMENT));
        while (lines.find()) {
            due.add(lines.group(1).replaceAll("(int|double|long|boolean) [a-z]+([,)])", "$1$2"));
        }
        Set<String> got = new TreeSet<>();
        for (Constructor<?> made : AfternoonMeter.class.getConstructors()) {
            got.add("AfternoonMeter(" + names(made.getParameterTypes()) + ")" + thrown(made.getExceptionTypes()));
        }
        for (Method method : AfternoonMeter.class.getDeclaredMethods()) {
            if (Modifier.isPublic(method.getModifiers())) {
                got.add(method.getReturnType().getSimpleName() + " " + method.getName() + "("
                    + names(method.getParameterTypes()) + ")" + thrown(method.getExceptionTypes()));
            }
        }
        check.same("lines of the document's face, one for each promise", due.size(), 37);
        check.same("the face", got, due);
        check.same("public and final", AfternoonMeter.class.getModifiers(), Modifier.PUBLIC | Modifier.FINAL);
    }

    private static String names(Class<?>[] types) {
        List<String> names = new ArrayList<>();
        for (Class<?> type : types) {
            names.add(type.getSimpleName());
        }
        return String.join(", ", names);
    }

    private static String thrown(Class<?>[] types) {
        return types.length == 0 ? "" : " throws " + names(types);
    }

    private static void restIsPrivate() {
        Set<String> face = new TreeSet<>();
        int fields = 0;
        for (Method method : AfternoonMeter.class.getMethods()) {
            face.add(method.getName());
        }
        for (Method method : AfternoonMeter.class.getDeclaredMethods()) {
            String name = method.getName();
            if (!Modifier.isPublic(method.getModifiers())) {
                check.same(name + " is private", Modifier.isPrivate(method.getModifiers()), true);
                check.same(name + " bears a public one's name", face.contains(name), false);
            }
        }
        for (Field field : AfternoonMeter.class.getDeclaredFields()) {
            int is = field.getModifiers();
            check.same(field.getName() + " is private", Modifier.isPrivate(is), true);
            boolean isStatic = Modifier.isStatic(is);
            check.same(field.getName() + " is static, not final", isStatic && !Modifier.isFinal(is), false);
            fields += isStatic ? 0 : 1;
        }
        check.same("some twenty fields at most", fields <= 20, true);
    }

    private static void sourceKeepsToTheRules() throws IOException {
        String source = Files.readString(SOURCE);
        check.same("signs 1 to 127 alone", source.chars().allMatch(c -> c >= 1 && c <= 127), true);
        for (String word : List.of("import", "package", "synchronized", "assert", "catch", "finally", "->", "::")) {
            String pattern = word.matches("[a-z]+") ? "\\b" + word + "\\b" : word;
            check.same("the source has " + word, Pattern.compile(pattern).matcher(source).find(), false);
        }
    }
}
