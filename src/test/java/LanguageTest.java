import java.io.IOException;
import java.nio.charset.StandardCharsets;
import java.nio.file.Files;
import java.nio.file.Path;
import java.util.List;
import java.util.regex.Pattern;

/** Rules of LANGUAGE.md that can be seen in the program's text. .ci/run starts it in the project's folder. */
public final class LanguageTest {
    private static final String[] FORBIDDEN = {
        "\\bthrow\\b", "\\bthrows\\b", "\\btry\\b", "\\bcatch\\b", "\\bfinally\\b", "\\bsynchronized\\b", "\\bassert\\b",
        "->", "::", "\\bpackage\\b", "\\bprotected\\b", "\\bstatic\\s*\\{", "Exact\\b", "\\bhashCode\\b", "\\btoString\\b",
        "System\\.(?!arraycopy)", "\\bRandom\\b", "\\bThread\\b", "\\bvar\\b"};

    public static void main(String[] args) throws IOException {
        List<String> lines = Files.readAllLines(Path.of("src/main/java/BuoyTender.java"), StandardCharsets.US_ASCII);
        for (String forbidden : FORBIDDEN) {
            Pattern pattern = Pattern.compile(forbidden);
            for (int i = 0; i < lines.size(); i++) {
                Checks.no("line " + (i + 1) + " has " + forbidden, pattern.matcher(code(lines.get(i))).find());
            }
        }
        for (String line : lines) {
            Checks.yes("only java.util is imported: " + line,
                !line.startsWith("import ") || line.matches("import java\\.util\\.(Arrays|ArrayList|List);"));
        }
        madeOnce(lines);
        methodLengths(lines);
        Checks.finish();
    }

    private static String code(String line) {
        String bare = line.strip();
        boolean comment = bare.startsWith("//") || bare.startsWith("/*") || bare.startsWith("*");
        return comment ? "" : bare;
    }

    /** Nothing that a call makes is thrown away: the room of a run holds that too. */
    private static void madeOnce(List<String> lines) {
        Pattern kept = Pattern.compile(
            "private final .* = new .*;|marks\\[number\\] = new Mark\\(.*;|planner = new Planner\\(\\);");
        for (int i = 0; i < lines.size(); i++) {
            String code = code(lines.get(i));
            Checks.yes("line " + (i + 1) + " makes what is kept: " + code,
                !code.matches(".*\\b(new|clone|copyOf|copyOfRange)\\b.*") || kept.matcher(code).matches());
        }
    }

    /** A method starts where a brace opens behind a parenthesis, four or eight signs in, and ends with a brace there. */
    private static void methodLengths(List<String> lines) {
        for (int i = 0; i < lines.size(); i++) {
            String line = lines.get(i);
            String indent = line.substring(0, line.length() - line.stripLeading().length());
            if (line.endsWith("{") && line.matches(" {4}( {4})?(public|private) .*") && line.contains("(")) {
                int last = i;
                while (last < lines.size() && !lines.get(last).equals(indent + "}")) {
                    last++;
                }
                Checks.yes("line " + (i + 1) + ": a method of some sixty lines at most", last - i <= 60);
            }
        }
    }
}
