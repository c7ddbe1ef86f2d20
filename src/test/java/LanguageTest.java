import java.io.IOException;
import java.nio.file.Files;
import java.nio.file.Path;
import java.util.regex.Matcher;
import java.util.regex.Pattern;

/** Words and signs that ../shared/LANGUAGE.md does not leave to the class; run where the project's folder is. */
public final class LanguageTest {
    private static final Path SOURCE = Path.of("src", "main", "java", "GaleNames.java");
    private static final String[] REFUSED = {
        "\\bimport\\b", "\\bpackage\\b", "\\bthrows?\\b", "\\btry\\b", "\\bcatch\\b", "\\bfinally\\b",
        "\\bsynchronized\\b", "\\bassert\\b", "\\bprotected\\b", "\\bvolatile\\b", "\\bnative\\b", "->", "::",
        "\\bequals\\s*\\(", "\\bhashCode\\b", "\\btoString\\b", "Exact\\b", "\\bstatic\\s*\\{", "@",
        "\\bObject\\b", "[^\\x00-\\x7f]", "\\bstatic (?!final\\b)[^(;{]*;"
    };
    private static final int LONGEST_METHOD = 60;
    private static final Due due = new Due();

    public static void main(String[] args) throws IOException {
        due.promise(0, "LANGUAGE.md");
        String code = withoutComments(Files.readString(SOURCE));
        for (String refused : REFUSED) {
            Matcher matcher = Pattern.compile(refused).matcher(code);
            boolean found = matcher.find();
            due.is(refused + (found ? " at \"" + lineAt(code, matcher.start()) + "\"" : ""), found ? 1 : 0, 0);
        }
        nestedClasses();
        methodLengths(code);
        due.end();
    }

    private static String withoutComments(String source) {
        return source.replaceAll("(?s)/\\*.*?\\*/", "").replaceAll("//[^\n]*", "");
    }

    private static String lineAt(String code, int index) {
        int end = code.indexOf('\n', index);
        return code.substring(code.lastIndexOf('\n', index) + 1, end < 0 ? code.length() : end).trim();
    }

    private static void nestedClasses() {
        Class<?>[] classes = GaleNames.class.getDeclaredClasses();
        due.is("at most 12 classes", classes.length <= 11 ? 1 : 0, 1);
        for (Class<?> nested : classes) {
            int modifiers = nested.getModifiers();
            due.is(nested + " is static", java.lang.reflect.Modifier.isStatic(modifiers) ? 1 : 0, 1);
            due.is(nested + " is public", java.lang.reflect.Modifier.isPublic(modifiers) ? 1 : 0, 0);
        }
    }

    /** A method begins at a line that ends with ") {" and ends where that indentation closes. */
    private static void methodLengths(String code) {
        String[] lines = code.split("\n", -1);
        for (int i = 0; i < lines.length; i++) {
            if (!lines[i].matches("( {4}| {8})[A-Za-z].*\\) \\{")) continue;
            String close = lines[i].replaceAll("\\S.*", "") + "}";
            int end = i + 1;
            while (end < lines.length && !lines[end].equals(close)) end++;
            due.is("a short method: " + lines[i].trim(), end - i <= LONGEST_METHOD ? 1 : 0, 1);
        }
    }
}
