import java.io.IOException;
import java.nio.charset.StandardCharsets;
import java.nio.file.Files;
import java.nio.file.Path;
import java.util.List;

/** What LANGUAGE.md leaves out, looked for in the text of the program; run from the project's folder. */
final class SourceTest {
    private static final String[] LEFT_OUT = {
        "package ", "import ", "->", "::", "synchronized", "assert", "finally", "catch", "try",
        "Exact(", "Math.sqrt", "Math.pow", "StrictMath", "hashCode", "equals(", "toString",
        "getMessage", "yield", "volatile", "transient", "native", "Thread", "System.out",
        "System.nanoTime", "System.currentTimeMillis", "Random(", "0.0", "Integer.valueOf",
        "float", "protected", "record ", "var "};

    public static void main(String[] arguments) throws IOException {
        Runs runs = new Runs();
        Path path = Path.of("src/main/java/SlewPlanner.java");
        String text = Files.readString(path, StandardCharsets.UTF_8);
        for (int i = 0; i < text.length(); i++) {
            char sign = text.charAt(i);
            if (sign != '\n' && (sign < ' ' || sign > '~')) {
                runs.same("a sign outside ASCII at " + i, "none", (int) sign);
            }
        }
        String code = withoutComments(text);
        for (String words : LEFT_OUT) {
            runs.same("the language leaves out " + words, false, containsWord(code, words));
        }
        methodLengths(runs, Files.readAllLines(path));
        runs.end();
    }

    private static String withoutComments(String text) {
        return text.replaceAll("(?s)/\\*.*?\\*/", "").replaceAll("//[^\n]*", "")
                .replaceAll("\"[^\"\n]*\"", "\"\"");
    }

    private static boolean containsWord(String code, String words) {
        for (int i = code.indexOf(words); i >= 0; i = code.indexOf(words, i + 1)) {
            boolean begins = i == 0 || !Character.isJavaIdentifierPart(code.charAt(i - 1))
                    || !Character.isJavaIdentifierStart(words.charAt(0));
            int end = i + words.length();
            boolean ends = end >= code.length() || !Character.isJavaIdentifierPart(code.charAt(end))
                    || !Character.isJavaIdentifierPart(words.charAt(words.length() - 1));
            if (begins && ends) {
                return true;
            }
        }
        return false;
    }

    /** A method's last line is the bracket that stands as far in as its first line does. */
    private static void methodLengths(Runs runs, List<String> lines) {
        int first = -1;
        String head = "";
        for (int i = 0; i < lines.size(); i++) {
            String line = lines.get(i);
            boolean starts = line.matches("( {4}| {8})[a-zA-Z].*\\(.*")
                    && !line.contains(" class ") && !line.contains("=");
            if (starts && first < 0 && !line.endsWith(";")) {
                first = i;
                head = line.replaceAll("\\S.*", "");
            }
            if (first >= 0 && line.equals(head + "}")) {
                runs.same("rule 11, the length of" + lines.get(first), true, i - first + 1 <= 60);
                first = -1;
            }
        }
        runs.same("every method has an end", -1, first);
    }
}
