import java.io.IOException;
import java.nio.file.Files;
import java.nio.file.Path;
import java.util.List;
import java.util.regex.Matcher;
import java.util.regex.Pattern;

/** What of ../shared/LANGUAGE.md can be seen from the text of the program. */
public final class LanguageTest {
    private static final String[] FORBIDDEN = {"->", "::", "Exact\\(", "static \\{", "\\bfinally\\b", "\\bsynchronized\\b",
        "\\bassert\\b", "\\btry\\b", "\\bdouble\\b", "\\bfloat\\b", "\\bSystem\\.(?!arraycopy)", "\\bwhile \\(true\\)",
        "for \\(;;\\)", "\\bprotected\\b", "\\bpackage\\b", "\\bimport (?!java\\.util\\.NoSuchElementException;)", "\\[\\]\\[\\]\\[\\]",
        "\\.ordinal\\(", "\\.name\\(", "\\.hashCode\\(", "\\.toString\\(", "\\.equals\\("};

    public static void main(String[] args) throws IOException {
        List<String> lines = Files.readAllLines(Path.of("src/main/java/CombedOut.java"));
        int classes = 0;
        int start = 0;
        for (int i = 0; i < lines.size(); i++) {
            String line = lines.get(i);
            String code = line.replaceAll("//.*|^\\s*/?\\*.*", "");
            for (String bad : FORBIDDEN) {
                Check.due("line " + (i + 1) + " has " + bad, Pattern.compile(bad).matcher(code).find(), false);
            }
            Check.due("line " + (i + 1) + " has signs 1 to 127 alone", line.chars().allMatch(c -> c < 128), true);
            classes += code.matches(".*\\b(class|enum|interface|record) \\w+.*\\{") ? 1 : 0;
            if (code.matches(" {4}( {4})?\\S.*\\) ?(throws \\w+ )?\\{") && !code.contains("class ")) {
                start = i;
                Matcher m = Pattern.compile("\\((.*)\\)").matcher(code);
                int parameters = m.find() && !m.group(1).isEmpty() ? m.group(1).split(",").length : 0;
                Check.due("line " + (i + 1) + " has at most seven parameters", parameters <= 7, true);
            }
            if (code.matches(" {4}( {4})?\\}")) {
                Check.due("the method that ends in line " + (i + 1) + " is short", i - start <= 60 || classEnds(lines, i), true);
            }
        }
        Check.due("at most twelve classes", classes <= 12, true);
        Check.due("the classes were seen", classes > 5, true);
        Check.finish();
    }

    private static boolean classEnds(List<String> lines, int i) {
        return lines.get(i).equals("    }") && lines.get(i - 1).equals("        }");
    }
}
