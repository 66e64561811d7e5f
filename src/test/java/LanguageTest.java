import java.io.IOException;
import java.nio.file.Files;
import java.nio.file.Path;
import java.util.List;
import java.util.regex.Pattern;

/** What LANGUAGE.md rules out and a look at the text can tell. It is run from the project's own folder. */
public final class LanguageTest {
    private static final String[] NEVER = {
        "\\bcatch\\b", "\\bfinally\\b", "\\btry\\b", "->", "::", "\\bassert\\b", "\\bsynchronized\\b", "\\bpackage\\b",
        "\\bprotected\\b", "\\bSystem\\.(?!arraycopy\\b)", "\\bObject\\b", "\\bRandom\\b", "Exact\\b", "\\bvar\\b",
        "\\bstatic\\s*\\{", "\\bstatic (?!final\\b)(int|long|boolean)(\\[\\])? \\w+( =|;)"};

    public static void main(String[] args) throws IOException {
        List<String> lines = Files.readAllLines(Path.of("src/main/java/RowStore.java"));
        int wrong = 0;
        for (int i = 0; i < lines.size(); i++) {
            String code = lines.get(i).replaceAll("^\\s*(/\\*\\*|\\*|//).*", "");
            for (String never : NEVER) {
                if (Pattern.compile(never).matcher(code).find()) {
                    wrong++;
                    System.out.println("line " + (i + 1) + " has " + never + ": " + code.trim());
                }
            }
            boolean known = code.equals("import java.util.Arrays;")
                    || code.equals("import java.util.NoSuchElementException;");
            if (code.startsWith("import ") && !known) {
                wrong++;
                System.out.println("line " + (i + 1) + ": " + code);
            }
        }
        if (wrong > 0) {
            System.exit(1);
        }
    }
}
