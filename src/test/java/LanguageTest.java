import java.lang.reflect.Constructor;
import java.lang.reflect.Field;
import java.lang.reflect.Method;
import java.lang.reflect.Modifier;
import java.nio.charset.StandardCharsets;
import java.nio.file.Files;
import java.nio.file.Path;
import java.util.Set;
import java.util.TreeSet;
import java.util.regex.Matcher;
import java.util.regex.Pattern;

/** Looks for what ../shared/LANGUAGE.md leaves out; run from the project's folder. */
public final class LanguageTest {
    private static final String FACE = "feed district fault thing walker height at hanging letGo take quake hours undo"
            + " judge perform season falls lands fallIn next busiest frees heightIn hurtIn hurts spares fallsBy waitFor"
            + " waitSafe waitHurt place worst both safeWay safeWays safeIn shelter later letGoBy letGoAt levels tray"
            + " write copy image restore count";

    public static void main(String[] args) throws Exception {
        String text = Files.readString(Path.of("src/main/java/LateFalls.java"), StandardCharsets.ISO_8859_1);
        String code = text.replaceAll("(?s)/\\*.*?\\*/", "").replaceAll("//[^\n]*", "")
                .replaceAll("\"[^\"\n]*\"", "\"\"");
        words(code);
        signs(text, code);
        methods(code);
        face();
        Check.end();
    }

    private static void words(String code) {
        String[] left = {"try", "catch", "finally", "synchronized", "assert", "package", "protected", "volatile",
            "System.out", "hashCode", "toString", "Exact", "Object", "var", "while \\(true\\)", "for \\(;;\\)",
            "float", "double", "Thread", "static \\{"};
        for (String word : left) {
            Check.due("uses of " + word, count(code, "\\b" + word), 0);
        }
        Check.due("lambdas and references to methods", count(code, "->|::"), 0);
        Check.due("imports", count(code, "\\bimport "), 1);
        Check.due("calls of System but arraycopy", count(code, "System\\.(?!arraycopy\\b)"), 0);
        Check.due("calls of Math beside those that are listed", count(code, "Math\\.(?!(max|min|abs|floorMod)\\b)"), 0);
        Check.due("throws of other classes", count(code, "throw (?!new (IllegalState|IllegalArgument|"
                + "IndexOutOfBounds|NoSuchElement)(Exception)\\()"), 0);
        Check.due("classes inside, twelve at most", Math.max(12, count(code, "\\bclass ")), 12);
        Check.due("static fields that aren't final", count(code, "\\bstatic (?!final)[^(;{]*[;=]"), 0);
    }

    private static void signs(String text, String code) {
        int other = 0;
        for (int i = 0; i < text.length(); i++) {
            other += text.charAt(i) > 126 ? 1 : 0;
        }
        Check.due("signs beyond 126", other, 0);
        Check.due("texts joined by +", count(code, "\"\" *\\+|\\+ *\"\""), 0);
    }

    private static void methods(String code) {
        Matcher m = Pattern.compile("(?m)^( {4,8})(?:(?:public|private|static|final) )*\\w+(?:\\[\\])* (\\w+)\\(([^)]*)\\)"
                + "[^;{]*\\{\n((?:.*\n)*?)\\1\\}").matcher(code);
        Set<String> publics = Set.of(FACE.split(" "));
        int seen = 0;
        while (m.find()) {
            seen++;
            long lines = m.group(4).lines().count();
            Check.due(m.group(2) + " has " + lines + " lines", lines > 60 ? 1 : 0, 0);
            int parameters = m.group(3).isBlank() ? 0 : m.group(3).split(",").length;
            Check.due(m.group(2) + " has " + parameters + " parameters", parameters > 7 ? 1 : 0, 0);
            boolean face = m.group().contains("public ");
            Check.due(m.group(2) + " bears a name of the face", !face && publics.contains(m.group(2)) ? 1 : 0, 0);
        }
        Check.due("methods seen, over a hundred", seen > 100 ? 1 : 0, 1);
    }

    private static void face() {
        Class<?> c = LateFalls.class;
        Check.due("public and final", c.getModifiers() & (Modifier.PUBLIC | Modifier.FINAL),
                Modifier.PUBLIC | Modifier.FINAL);
        Set<String> seen = new TreeSet<>();
        for (Method m : c.getDeclaredMethods()) {
            if (!Modifier.isPrivate(m.getModifiers())) {
                seen.add(m.getName());
            }
        }
        Check.due("methods of the face", seen.equals(new TreeSet<>(Set.of(FACE.split(" ")))) ? 1 : 0, 1);
        for (Field f : c.getDeclaredFields()) {
            Check.due("visible field " + f.getName(),
                    Modifier.isPrivate(f.getModifiers()) || f.getName().equals("NONE") ? 1 : 0, 1);
        }
        Constructor<?>[] constructors = c.getDeclaredConstructors();
        Check.due("constructors", constructors.length, 1);
        for (Class<?> inside : c.getDeclaredClasses()) {
            Check.due(inside.getName() + " is static", Modifier.isStatic(inside.getModifiers()) ? 1 : 0, 1);
            int fields = 0;
            for (Field f : inside.getDeclaredFields()) {
                fields += Modifier.isStatic(f.getModifiers()) ? 0 : 1;
            }
            Check.due(inside.getName() + " has " + fields + " fields", fields > 20 ? 1 : 0, 0);
        }
    }

    private static int count(String code, String pattern) {
        Matcher m = Pattern.compile(pattern).matcher(code);
        int n = 0;
        while (m.find()) {
            n++;
        }
        return n;
    }
}
