import java.io.IOException;
import java.lang.reflect.Field;
import java.lang.reflect.Method;
import java.lang.reflect.Modifier;
import java.nio.charset.StandardCharsets;
import java.nio.file.Files;
import java.nio.file.Path;
import java.util.HashSet;
import java.util.Set;
import java.util.regex.Matcher;
import java.util.regex.Pattern;

/** The rules of LANGUAGE.md that a look at the source and the compiled classes can tell. */
public final class LanguageTest {
    private static final String[] FACE = {"town", "office", "die", "mark", "lean", "about", "span", "can", "marks", "sail", "late", "road",
        "soonest", "goes", "when", "bars", "fewest", "type", "clear", "rates", "owed", "weights", "mail", "heap", "many", "look", "count", "trace"};
    private static final Due due = new Due();

    public static void main(String[] args) throws IOException {
        String source = Files.readString(Path.of("src/main/java/CoverMarks.java"), StandardCharsets.US_ASCII);
        String code = withoutCommentsAndTexts(source);
        String[] ruledOut = {"throw", "throws", "try", "catch", "finally", "synchronized", "assert", "package", "->", "::", "\\bhashCode\\b",
            "\\btoString\\b", "Exact\\b", "\\bObject\\b", "System\\.(?!arraycopy)", "\\bdouble\\b", "\\bfloat\\b", "\\bvar\\b", "@"};
        for (String bad : ruledOut) {
            String pattern = bad.matches("[a-z]+") ? "\\b" + bad + "\\b" : bad;
            due.is("'" + bad + "' in the source", matches(pattern, code), 0);
        }
        Matcher imports = Pattern.compile("import ([^;]+);").matcher(code);
        while (imports.find()) {
            due.is("import " + imports.group(1), imports.group(1).equals("java.util.Arrays") ? 1 : 0, 1);
        }
        lengths(code);
        face();
        classes();
        due.end();
    }

    private static String withoutCommentsAndTexts(String source) {
        return source.replaceAll("(?s)/\\*.*?\\*/", "").replaceAll("//[^\n]*", "").replaceAll("\"[^\"\n]*\"", "\"\"").replaceAll("'[^'\n]'", "' '");
    }

    private static int matches(String pattern, String code) {
        Matcher m = Pattern.compile(pattern).matcher(code);
        int found = 0;
        while (m.find()) {
            found++;
        }
        return found;
    }

    /** A method's lines go from its head to the brace that stands as deep as its head. */
    private static void lengths(String code) {
        String[] lines = code.split("\n");
        for (int i = 0; i < lines.length; i++) {
            String head = lines[i];
            if (head.matches("\\s+[\\w\\[\\] ]+\\([\\w\\[\\], ]*\\) \\{") && !head.matches("\\s+(if|for|while|switch).*")) {
                String indent = head.replaceAll("\\S.*", "");
                int end = i;
                while (end < lines.length && !lines[end].equals(indent + "}")) {
                    end++;
                }
                due.is("a method of more than 60 lines:" + head, end - i < 60 ? 0 : 1, 0);
                int parameters = head.split(",").length;
                due.is("more than seven parameters:" + head, parameters <= 7 || head.contains(" mark(") ? 0 : 1, 0);
            }
        }
    }

    private static void face() {
        Set<String> open = new HashSet<>(Set.of(FACE));
        for (Method m : CoverMarks.class.getDeclaredMethods()) {
            boolean isPrivate = Modifier.isPrivate(m.getModifiers());
            due.is("private or of the face: " + m.getName(), isPrivate != Set.of(FACE).contains(m.getName()) ? 1 : 0, 1);
            open.remove(m.getName());
        }
        due.is("all of the face", open.size(), 0);
        for (Field f : CoverMarks.class.getDeclaredFields()) {
            boolean isFace = Set.of("BAD", "STATE", "FULL", "NONE").contains(f.getName());
            due.is("field " + f.getName(), Modifier.isPublic(f.getModifiers()) == isFace && (isFace || Modifier.isPrivate(f.getModifiers())) ? 1 : 0, 1);
        }
        due.is("one constructor", CoverMarks.class.getConstructors().length, 1);
        due.is("final", Modifier.isFinal(CoverMarks.class.getModifiers()) ? 1 : 0, 1);
        due.is("BAD", CoverMarks.BAD, -1);
        due.is("STATE", CoverMarks.STATE, -2);
        due.is("FULL", CoverMarks.FULL, -3);
        due.is("NONE", CoverMarks.NONE, -9);
    }

    private static void classes() {
        Class<?>[] inside = CoverMarks.class.getDeclaredClasses();
        due.is("at most twelve classes", inside.length + 1 <= 12 ? 1 : 0, 1);
        for (Class<?> c : inside) {
            due.is("static: " + c, Modifier.isStatic(c.getModifiers()) ? 1 : 0, 1);
            int fields = 0;
            for (Field f : c.getDeclaredFields()) {
                boolean isStatic = Modifier.isStatic(f.getModifiers());
                fields += isStatic ? 0 : 1;
                due.is("static and final: " + f, !isStatic || Modifier.isFinal(f.getModifiers()) ? 1 : 0, 1);
            }
            due.is("at most twenty fields: " + c, fields <= 20 ? 1 : 0, 1);
            for (Method m : c.getDeclaredMethods()) {
                due.is("a name of the face: " + m, Set.of(FACE).contains(m.getName()) ? 1 : 0, 0);
            }
        }
    }
}
