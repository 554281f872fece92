import java.io.IOException;
import java.lang.reflect.Constructor;
import java.lang.reflect.Field;
import java.lang.reflect.Method;
import java.lang.reflect.Modifier;
import java.nio.file.Files;
import java.nio.file.Path;
import java.util.ArrayList;
import java.util.Arrays;
import java.util.List;
import java.util.TreeSet;
import java.util.regex.Matcher;
import java.util.regex.Pattern;

/** The rules of ../shared/LANGUAGE.md that can be seen without reading the program. */
public final class LanguageTest {

    private static int wrong = 0;

    private LanguageTest() {
    }

    public static void main(String[] args) throws IOException {
        String name = System.getProperty("source", "src/main/java/RaisedPress.java");
        String source = bare(Files.readString(Path.of(name)));
        words(source);
        lengths(source);
        List<Class<?>> classes = new ArrayList<>(List.of(RaisedPress.class));
        classes.addAll(Arrays.asList(RaisedPress.class.getDeclaredClasses()));
        check(classes.size() <= 12, "rule 11: " + classes.size() + " classes");
        face(RaisedPress.class);
        for (Class<?> c : classes) {
            members(c);
        }
        System.out.println("LanguageTest: " + (wrong == 0 ? "all rules hold" : wrong + " are broken"));
        if (wrong != 0) {
            System.exit(1);
        }
    }

    private static void check(boolean holds, String what) {
        if (!holds) {
            wrong++;
            System.out.println(what);
        }
    }

    /** The program without comments and without what stands in texts. */
    private static String bare(String source) {
        String text = source.replaceAll("(?s)/\\*.*?\\*/", "").replaceAll("//[^\n]*", "");
        return text.replaceAll("\"[^\"\n]*\"", "\"\"");
    }

    private static void words(String source) {
        String[] words = {"throw", "throws", "try", "catch", "finally", "synchronized", "assert",
            "yield", "var", "import", "package", "instanceof", "protected", "volatile", "native",
            "equals", "hashCode", "toString", "System\\.out", "Random", "Thread", "Object",
            "double", "float"};
        for (String word : words) {
            Matcher m = Pattern.compile("\\b" + word + "\\b").matcher(source);
            check(!m.find(), "the word " + word + " stands in the program");
        }
        for (String sign : List.of("->", "::", "@", "static {", "while (true)", "for (;;)")) {
            check(!source.contains(sign), "the sign " + sign + " stands in the program");
        }
        Matcher made = Pattern.compile("\\bnew\\b[^;]*;").matcher(source);
        while (made.find()) {
            String line = source.substring(source.lastIndexOf('\n', made.start()) + 1, made.end());
            boolean field = line.contains("private ") || line.contains("final ");
            check(field || line.contains("marks[k] = new Mark()"), "rule 12: " + line.trim());
        }
    }

    private static void lengths(String source) {
        Pattern head = Pattern.compile("(?m)^( +)[A-Za-z][^=;{}()]*\\(([^;{}]*?)\\) \\{$");
        Matcher m = head.matcher(source);
        int methods = 0;
        while (m.find()) {
            String first = m.group().trim();
            if (first.matches("(?s)(if|for|while|switch|\\} else).*")) {
                continue;
            }
            methods++;
            int end = source.indexOf("\n" + m.group(1) + "}\n", m.end());
            long lines = source.substring(m.start(), Math.max(m.start(), end)).lines().count();
            check(lines <= 60, "rule 11: " + first + " has " + lines + " lines");
            check(m.group(2).split(",").length <= 7, "rule 11: " + first + " has many parameters");
        }
        check(methods > 150, "only " + methods + " methods were found");
    }

    private static void face(Class<?> c) {
        check(Modifier.isFinal(c.getModifiers()), "rule 1: the class is not final");
        List<String> publicFields = new ArrayList<>();
        for (Field f : c.getDeclaredFields()) {
            if (Modifier.isPublic(f.getModifiers())) {
                publicFields.add(f.getName());
            } else {
                check(Modifier.isPrivate(f.getModifiers()), "rule 1: the field " + f.getName());
            }
        }
        check(publicFields.equals(List.of("NONE")), "rule 1: public fields " + publicFields);
        int calls = 0;
        for (Method m : c.getDeclaredMethods()) {
            calls += Modifier.isPublic(m.getModifiers()) ? 1 : 0;
            boolean one = Modifier.isPublic(m.getModifiers()) || Modifier.isPrivate(m.getModifiers());
            check(one || m.isSynthetic(), "rule 1: the method " + m.getName());
        }
        check(calls == 66, "rule 1: " + calls + " public methods");
        Constructor<?>[] made = c.getDeclaredConstructors();
        check(made.length == 1 && made[0].getParameterCount() == 0, "rule 1: the constructor");
    }

    private static void members(Class<?> c) {
        TreeSet<String> faceNames = new TreeSet<>();
        for (Method m : RaisedPress.class.getDeclaredMethods()) {
            if (Modifier.isPublic(m.getModifiers())) {
                faceNames.add(m.getName());
            }
        }
        boolean inside = c != RaisedPress.class;
        check(!inside || Modifier.isStatic(c.getModifiers()), "rule 2: " + c.getName());
        check(!inside || !Modifier.isPublic(c.getModifiers()), "rule 1: " + c.getName());
        for (Method m : c.getDeclaredMethods()) {
            boolean own = inside || Modifier.isPrivate(m.getModifiers());
            check(!own || !faceNames.contains(m.getName()), "rule 1: the name of " + m);
        }
        int fields = 0;
        for (Field f : c.getDeclaredFields()) {
            boolean isStatic = Modifier.isStatic(f.getModifiers());
            fields += isStatic ? 0 : 1;
            check(!isStatic || Modifier.isFinal(f.getModifiers()), "rule 5: " + f);
        }
        check(fields <= 21, "rule 11: " + c.getName() + " has " + fields + " fields");
    }
}
