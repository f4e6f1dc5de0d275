import java.io.IOException;
import java.nio.file.Files;
import java.nio.file.Path;
import java.util.List;
import java.util.regex.Matcher;
import java.util.regex.Pattern;

/** What of ../shared/LANGUAGE.md can be seen from the program's text; run from the project's folder. */
public final class LanguageTest {
    private static final Path PROGRAM = Path.of("src/main/java/SlipLevels.java");

    /** Words and signs that the rules leave out, or that this program can do without. */
    private static final String[] LEFT_OUT = {
        "->", "::", "\\bcatch\\b", "\\btry\\b", "\\bfinally\\b", "\\bassert\\b", "\\bsynchronized\\b",
        "\\bstatic\\s*\\{", "\\bpackage\\b", "\\bSystem\\.(?!arraycopy\\b)", "\\bMath\\.\\w+Exact\\b",
        "\\bThread\\b", "\\bprotected\\b", "\\btoString\\b", "\\bhashCode\\b", "\\bequals\\b",
        "\\bimport (?!java\\.util\\.Arrays;)", "\\bextends\\b",
    };

    private static int wrong = 0;

    private static void leftOut(String code) {
        for (String what : LEFT_OUT) {
            Matcher found = Pattern.compile(what).matcher(code);
            if (found.find()) {
                wrong++;
                System.out.println("the program has " + found.group());
            }
        }
    }

    /** Calls make no objects: all rows are made in constructors and fields, but for what is thrown. */
    private static void noObjectsInCalls(List<String> lines) {
        Pattern field = Pattern.compile("^ +private final .*= new .*;$");
        Pattern inConstructor = Pattern.compile("^ +(deskSlips|binder|trial|rows\\[at\\]) = new (Slips|Binder)\\(\\);$");
        for (String line : lines) {
            boolean makes = Pattern.compile("\\bnew\\b").matcher(line).find();
            boolean comment = line.strip().startsWith("/**") || line.strip().startsWith("//");
            if (makes && !comment && !line.contains("throw new ") && !field.matcher(line).matches()
                && !inConstructor.matcher(line).matches()) {
                wrong++;
                System.out.println("an object is made in a call: " + line.strip());
            }
        }
    }

    private static void signs(String text) {
        for (int at = 0; at < text.length(); at++) {
            if (text.charAt(at) > 126) {
                wrong++;
                System.out.println("a sign beyond 126 at " + at);
            }
        }
    }

    public static void main(String[] args) throws IOException {
        String text = Files.readString(PROGRAM);
        signs(text);
        leftOut(text.replaceAll("(?s)/\\*.*?\\*/", " ").replaceAll("//[^\n]*", " "));
        noObjectsInCalls(Files.readAllLines(PROGRAM));
        System.out.println(wrong == 0 ? "the program keeps to the language" : wrong + " faults of language");
        if (wrong != 0) {
            System.exit(1);
        }
    }
}
