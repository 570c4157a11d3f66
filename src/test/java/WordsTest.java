import java.io.IOException;
import java.nio.file.Paths;
import java.util.ArrayList;
import java.util.List;
import java.util.regex.Matcher;
import java.util.regex.Pattern;

/** What the document gives word for word stands in the program so: its public face, and the headings of the calls. */
public final class WordsTest {
    private static final String PROGRAM = "src/main/java/AmplifierDesk.java";
    private static final String DOCUMENT = "../shared/DOC.md";
    private static final Pattern FACE = Pattern.compile("(?s)\n```java\n(.*?)\n```\n");
    private static final Pattern AHEAD = Pattern.compile("Ahead of the calls (.*) the interface says: (---- .*)\\.");
    private static final Pattern NAME = Pattern.compile("(\\w+)\\(");

    public static void main(String[] args) throws IOException {
        String document = Workplace.read(Paths.get(DOCUMENT));
        String program = Workplace.read(Paths.get(PROGRAM)).replaceAll("\\s+", " ");
        List<String> face = face(document);
        int found = 0;
        for (String line : face) {
            int place = program.indexOf(line, found);
            Check.equal("in its order: " + line, place >= 0 ? 1 : 0, 1);
            found = Math.max(found, place);
        }
        headings(document, program, face);
        Check.end();
    }

    /** The lines of the face as they begin in a program, with a body in place of the ";". */
    private static List<String> face(String document) {
        Matcher matcher = FACE.matcher(document);
        Check.equal("the face of the document", matcher.find() ? 1 : 0, 1);
        List<String> lines = new ArrayList<>();
        for (String line : matcher.group(1).split("\n")) {
            String text = line.trim();
            if (!text.equals("}")) {
                lines.add(text.endsWith(");") || text.contains(" throws ") ? text.replace(";", " {") : text);
            }
        }
        Check.equal("lines of the face", lines.size(), 27);
        return lines;
    }

    /** Each heading stands ahead of its calls, and behind those of the heading before it. */
    private static void headings(String document, String program, List<String> face) {
        Matcher matcher = AHEAD.matcher(document);
        int call = 3;
        int end = 0;
        int headings = 0;
        while (matcher.find()) {
            headings++;
            int heading = program.indexOf("// " + matcher.group(2) + " public ");
            Check.equal("behind the calls ahead of it: " + matcher.group(2), heading > end ? 1 : 0, 1);
            for (String name : matcher.group(1).split(", ")) {
                String line = call < face.size() ? face.get(call) : "";
                Matcher named = NAME.matcher(line);
                Check.equal("the call in its order", named.find() ? "`" + named.group(1) + "`" : "none", name);
                end = program.indexOf(line);
                Check.equal("below " + matcher.group(2) + ": " + line, end > heading ? 1 : 0, 1);
                call++;
            }
        }
        Check.equal("headings", headings, 7);
        Check.equal("calls below headings", call, face.size());
    }
}
