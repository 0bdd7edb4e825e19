import java.io.IOException;
import java.lang.reflect.Constructor;
import java.lang.reflect.Field;
import java.lang.reflect.Method;
import java.lang.reflect.Modifier;
import java.nio.file.Files;
import java.nio.file.Path;
import java.util.Arrays;
import java.util.Set;
import java.util.TreeSet;
import java.util.regex.Pattern;

/**
 * The class's face is the one that ../shared/DOC.md prints, and its file keeps to those rules of
 * ../shared/LANGUAGE.md that a look at the text can tell. Run from the project's root.
 */
public final class PegfieldFace {
    private static final String[] RULED_OUT = {
        "StrictMath\\.", "Double\\.", "Float\\.", "Exact\\(", "->", "::", "\\bfinally\\b", "\\bsynchronized\\b",
        "\\bassert\\b", "\\bcatch\\b", "\\bstatic\\s*\\{", "\\bSystem\\.(?!arraycopy)", "\\bThread\\b", "\\bRandom\\b",
        "\\bprotected\\b", "\\bvar\\b", "\\bpackage\\b", "Math\\.(?!abs\\()"
    };

    public static void main(String[] args) throws IOException {
        face();
        members();
        language();
        Check.end("PegfieldFace");
    }

    private static void face() throws IOException {
        String document = Files.readString(Path.of("../shared/DOC.md"));
        int start = document.indexOf("public final class Pegfield {");
        String printed = document.substring(start, document.indexOf("```", start));
        Set<String> want = new TreeSet<>();
        for (String line : printed.split("\n")) {
            String text = line.trim();
            if (text.endsWith(";")) {
                want.add(text.replaceAll("(int|char|boolean) \\w+(?=[,)])", "$1"));
            }
        }
        Check.same("calls of the face", 31, want.size());
        Set<String> got = new TreeSet<>();
        for (Constructor<?> made : Pegfield.class.getConstructors()) {
            got.add("public Pegfield(" + list(made.getParameterTypes()) + ");");
        }
        for (Method method : Pegfield.class.getDeclaredMethods()) {
            if (Modifier.isPublic(method.getModifiers())) {
                String thrown = list(method.getExceptionTypes());
                got.add("public " + method.getReturnType().getSimpleName() + " " + method.getName() + "("
                        + list(method.getParameterTypes()) + ")" + (thrown.isEmpty() ? "" : " throws " + thrown) + ";");
            }
        }
        Check.same("face", want, got);
    }

    private static String list(Class<?>[] types) {
        return String.join(", ", Arrays.stream(types).map(Class::getSimpleName).toList());
    }

    private static void members() {
        Check.same("the class is public and final", Modifier.PUBLIC | Modifier.FINAL, Pegfield.class.getModifiers());
        Set<String> names = new TreeSet<>();
        for (Method method : Pegfield.class.getDeclaredMethods()) {
            if (Modifier.isPublic(method.getModifiers())) {
                names.add(method.getName());
            }
        }
        for (Method method : Pegfield.class.getDeclaredMethods()) {
            int kind = method.getModifiers();
            Check.same(method + " is public or private", true, Modifier.isPublic(kind) || Modifier.isPrivate(kind));
            Check.same(method + " bears a name of its own", false,
                    Modifier.isPrivate(kind) && names.contains(method.getName()));
        }
        for (Field field : Pegfield.class.getDeclaredFields()) {
            int kind = field.getModifiers();
            Check.same(field + " is private", true, Modifier.isPrivate(kind));
            Check.same(field + " is final if static", true, !Modifier.isStatic(kind) || Modifier.isFinal(kind));
        }
    }

    private static void language() throws IOException {
        String source = Files.readString(Path.of("src/main/java/Pegfield.java"));
        String code = source.replaceAll("(?s)/\\*.*?\\*/", "").replaceAll("//[^\n]*", "").replaceAll("\"[^\"]*\"", "\"\"");
        for (String ruledOut : RULED_OUT) {
            Check.same("no " + ruledOut, false, Pattern.compile(ruledOut).matcher(code).find());
        }
        Check.same("one import", 1, code.split("\\bimport\\b", -1).length - 1);
    }
}
