import java.nio.file.Files;
import java.nio.file.Path;
import java.util.regex.Matcher;
import java.util.regex.Pattern;

/** What of ../shared/LANGUAGE.md can be seen in the text of the program; to be run from the project's root. */
public final class LanguageTest {
    private static final String[] RULED_OUT = {
        "->", "::", "\\bfinally\\b", "\\bsynchronized\\b", "\\bassert\\b", "\\bpackage\\b", "\\bprotected\\b", "\\bvar\\b",
        "\\bobject\\b", "\\bcatch\\b", "\\bmath\\.\\w*exact\\b", "\\bstring\\b", "\\btostring\\b", "\\bequals\\b", "\\bhashcode\\b",
        "\\bsystem\\b(?!\\.arraycopy)", "\\bthread\\b", "\\brandom\\b", "\\bdouble\\b", "\\bfloat\\b", "\\blambda\\b", "\"\\s*\\+", "\\+\\s*\"",
    };
    private static final int LONGEST_METHOD = 60;

    public static void main(String[] args) throws Exception {
        String text = Files.readString(Path.of("src/main/java/HarborTides.java"));
        Check.due("a sign above 127", text.chars().anyMatch(sign -> sign > 127), false);
        String code = text.replaceAll("(?s)/\\*.*?\\*/", "").replaceAll("//[^\n]*", "");
        for (String ruledOut : RULED_OUT) {
            Check.due("the program has " + ruledOut, Pattern.compile(ruledOut).matcher(code.toLowerCase()).find(), false);
        }
        imports(code);
        exceptions(code);
        methodsAreShort(text);
        Check.end();
    }

    private static void imports(String code) {
        Matcher found = Pattern.compile("\\bimport ([^;]*);").matcher(code);
        while (found.find()) {
            Check.due("import " + found.group(1), found.group(1).matches("java\\.util\\.(ArrayList|List|Arrays)"), true);
        }
        Check.due("a name of a package", Pattern.compile("\\bjava\\.(?!util\\.(ArrayList|List|Arrays);)").matcher(code).find(), false);
    }

    private static void exceptions(String code) {
        Matcher found = Pattern.compile("\\bthrow\\b([^;]*);").matcher(code);
        String allowed = " new (IllegalState|IllegalArgument|IndexOutOfBounds)Exception\\((\"[^\"]*\")?\\)";
        while (found.find()) {
            Check.due("throw" + found.group(1), found.group(1).matches(allowed), true);
        }
    }

    private static void methodsAreShort(String text) {
        String[] lines = text.split("\n");
        for (int k = 0; k < lines.length; k++) {
            boolean opens = lines[k].matches("( {4}| {8})\\w.*\\) ?(throws [\\w, ]*)?\\{");
            if (opens) {
                String end = lines[k].replaceAll("\\S.*", "}");
                int last = k;
                while (last < lines.length - 1 && !lines[last].equals(end)) {
                    last++;
                }
                Check.due("the lines from " + (k + 1) + " on are a short method", last - k < LONGEST_METHOD, true);
            }
        }
    }
}
