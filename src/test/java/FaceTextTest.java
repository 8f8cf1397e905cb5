import java.nio.file.Files;
import java.nio.file.Path;
import java.util.ArrayList;
import java.util.List;
import java.util.regex.Matcher;
import java.util.regex.Pattern;

/** The text of the public face: its lines, its order and its sections, as ../shared/DOC.md has them. */
public final class FaceTextTest {
    private static final Pattern FACE = Pattern.compile("(?s)```java\n(.*?)```");
    private static final Pattern SECTION = Pattern.compile("Ahead of the calls (.*) the interface says: (----.*)\\.");

    public static void main(String[] args) throws Exception {
        String doc = Files.readString(Path.of("../shared/DOC.md"));
        String program = Files.readString(Path.of("src/main/java/HarborTides.java"));
        everyLineAsWritten(doc, program);
        everySectionAhead(doc, program);
        Check.end();
    }

    private static void everyLineAsWritten(String doc, String program) {
        Matcher face = FACE.matcher(doc);
        Check.due("the document has a public face", face.find(), true);
        int behind = -1;
        for (String line : face.group(1).lines().filter(one -> !one.equals("}")).toList()) {
            String written = line.contains("(") ? line.replace(";", " {") : line;
            int place = program.indexOf("\n" + written + "\n");
            Check.due("the program has, behind the line ahead:" + written, place > behind, true);
            behind = place;
        }
    }

    private static void everySectionAhead(String doc, String program) {
        Matcher section = SECTION.matcher(doc);
        int sections = 0;
        while (section.find()) {
            sections++;
            String title = "\n    // " + section.group(2) + "\n";
            int from = program.indexOf(title);
            Check.due("the program has" + title, from >= 0, true);
            int to = program.indexOf("\n    // ----", from + title.length());
            String text = program.substring(Math.max(from, 0), to < 0 ? program.length() : to);
            String calls = section.group(1).replace("`", "");
            Check.due("the calls behind " + section.group(2), String.join(", ", publicMethods(text)), calls);
        }
        Check.due("the document has sections", sections > 0, true);
    }

    private static List<String> publicMethods(String text) {
        List<String> names = new ArrayList<>();
        Matcher found = Pattern.compile("(?m)^    public \\w+ (\\w+)\\(").matcher(text);
        while (found.find()) {
            names.add(found.group(1));
        }
        return names;
    }
}
