import java.io.IOException;
import java.lang.reflect.Constructor;
import java.lang.reflect.Method;
import java.lang.reflect.Modifier;
import java.nio.file.Files;
import java.nio.file.Path;
import java.util.ArrayList;
import java.util.Arrays;
import java.util.List;
import java.util.Set;
import java.util.TreeSet;

/** The class bears the face that the document gives, and keeps to LANGUAGE.md where that can be looked up. */
public final class FaceTest {
    public static void main(String[] args) throws IOException {
        sameFace(Files.readString(Path.of("../shared/DOC.md")));
        nothingElse();
        keepsToTheLanguage(Files.readString(Path.of("src/main/java/Neonworks.java")));
        Check.end(FaceTest.class);
    }

    private static void sameFace(String document) {
        Set<String> due = new TreeSet<>();
        for (String line : document.split("\n")) {
            if (line.startsWith("    public ") && !line.contains("Neonworks()")) {
                due.add(line.trim().replaceAll("(int|long|char|boolean) \\w+([,)])", "$1$2"));
            }
        }
        Check.same("methods of the document", due.size(), 63);
        Set<String> got = new TreeSet<>();
        for (Method method : Neonworks.class.getDeclaredMethods()) {
            if (Modifier.isPublic(method.getModifiers())) {
                got.add(told(method));
            }
        }
        for (String method : due) {
            Check.same(method, got.contains(method), true);
        }
        Check.same("number of public methods", got.size(), due.size());
    }

    private static String told(Method method) {
        List<String> types = new ArrayList<>();
        for (Class<?> type : method.getParameterTypes()) {
            types.add(type.getSimpleName());
        }
        List<String> thrown = new ArrayList<>();
        for (Class<?> type : method.getExceptionTypes()) {
            thrown.add(type.getSimpleName());
        }
        return "public " + method.getReturnType().getSimpleName() + " " + method.getName() + "("
                + String.join(", ", types) + ")" + (thrown.isEmpty() ? "" : " throws " + String.join(", ", thrown)) + ";";
    }

    private static void nothingElse() {
        int modifiers = Neonworks.class.getModifiers();
        Check.same("public and final", Modifier.isPublic(modifiers) && Modifier.isFinal(modifiers), true);
        Constructor<?>[] constructors = Neonworks.class.getDeclaredConstructors();
        Check.same("constructors", constructors.length, 1);
        Set<String> face = new TreeSet<>();
        for (Method method : Neonworks.class.getDeclaredMethods()) {
            boolean isPublic = Modifier.isPublic(method.getModifiers());
            Check.same(method + " is public or private", isPublic || Modifier.isPrivate(method.getModifiers()), true);
            if (isPublic) {
                face.add(method.getName());
            }
        }
        Arrays.stream(Neonworks.class.getDeclaredFields()).forEach(field ->
                Check.same(field + " is private", Modifier.isPrivate(field.getModifiers()), true));
        int classes = 1;
        List<Class<?>> all = new ArrayList<>(List.of(Neonworks.class));
        for (Class<?> inner : Neonworks.class.getDeclaredClasses()) {
            classes++;
            all.add(inner);
            Check.same(inner + " is static", Modifier.isStatic(inner.getModifiers()), true);
            Check.same(inner + " is not public", Modifier.isPublic(inner.getModifiers()), false);
        }
        Check.same("at most twelve classes", classes <= 12, true);
        for (Class<?> one : all) {
            for (Method method : one.getDeclaredMethods()) {
                boolean isFace = one == Neonworks.class && Modifier.isPublic(method.getModifiers());
                Check.same(method + " bears a name of the face", !isFace && face.contains(method.getName()), false);
                Check.same(method + " has at most 7 parameters", method.getParameterCount() <= 7, true);
            }
            long fields = Arrays.stream(one.getDeclaredFields()).filter(f -> !Modifier.isStatic(f.getModifiers())).count();
            Check.same(one + " has at most 20 fields", fields <= 20, true);
            Arrays.stream(one.getDeclaredFields()).filter(f -> Modifier.isStatic(f.getModifiers())).forEach(f ->
                    Check.same(f + " is final", Modifier.isFinal(f.getModifiers()), true));
        }
    }

    private static void keepsToTheLanguage(String source) {
        String[] forbidden = {"->", "::", "catch", "finally", "try {", "synchronized", "assert ", "switch", "Exact(",
            "Arrays.sort", "Arrays.asList", "hashCode", "toString", "Object ", "String.format", "Double.", "Float.",
            "var ", "HashMap", "Scanner", "System.out", "getClass", "long[][]", "package ", "protected "};
        for (String word : forbidden) {
            Check.same("the source has " + word, source.contains(word), false);
        }
        Set<String> imports = new TreeSet<>();
        int longest = 0;
        int begun = 0;
        String[] lines = source.split("\n");
        for (int i = 0; i < lines.length; i++) {
            if (lines[i].startsWith("import ")) {
                imports.add(lines[i]);
            }
            if (lines[i].matches(" {4}( {4})?(public|private|static|[a-z]\\w*) .*\\) ?\\{|.*throws .*\\{")) {
                begun = i;
            }
            if (lines[i].matches(" {4}( {4})?\\}")) {
                longest = Math.max(longest, i - begun);
            }
            boolean isSevenBit = lines[i].chars().allMatch(sign -> sign >= 32 && sign < 127);
            Check.same("line " + (i + 1) + " has signs 32 to 126 alone", isSevenBit, true);
        }
        Check.same("imports", imports.toString(), "[import java.util.ArrayList;, import java.util.Arrays;, "
                + "import java.util.List;, import java.util.NoSuchElementException;]");
        Check.same("methods stay short", longest <= 60, true);
    }
}
