import java.io.IOException;
import java.nio.file.Files;
import java.nio.file.Path;
import java.util.Set;
import java.util.TreeSet;
import java.util.regex.Matcher;
import java.util.regex.Pattern;

/** Rule 4 of LANGUAGE.md: the class names nothing of the library beyond what the rule itself names. */
final class LibraryTest {
    private static final Path SOURCE = Path.of("src/main/java/RangeBox.java");
    private static final Pattern TEXT_OR_COMMENT = Pattern.compile("\"[^\"\n]*\"|//[^\n]*|/\\*.*?\\*/", Pattern.DOTALL);
    private static final Pattern TYPE = Pattern.compile("\\b[A-Z]\\w*[a-z]\\w*\\b");
    private static final Pattern OF_MATH = Pattern.compile("\\bMath\\s*\\.\\s*(\\w+)");

    public static void main(String[] args) throws IOException {
        Due due = new Due();
        String code = TEXT_OR_COMMENT.matcher(Files.readString(SOURCE)).replaceAll(" ");
        Set<String> types = found(TYPE, 0, code);
        types.removeAll(Set.of("RangeBox", "Machine", "Outcome", "Math", "IllegalArgumentException"));
        due.same("types of the library beyond the known ones: " + types, types.isEmpty(), true);
        Set<String> functions = found(OF_MATH, 1, code);
        functions.removeAll(Set.of("min", "max"));
        due.same("functions of Math beyond the known ones: " + functions, functions.isEmpty(), true);
        due.same("no import", code.contains("import "), false);
        due.end();
    }

    private static Set<String> found(Pattern pattern, int group, String code) {
        Set<String> all = new TreeSet<>();
        Matcher matcher = pattern.matcher(code);
        while (matcher.find()) {
            all.add(matcher.group(group));
        }
        return all;
    }
}
