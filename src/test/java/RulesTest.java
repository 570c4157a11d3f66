import java.io.IOException;
import java.nio.charset.StandardCharsets;
import java.nio.file.Files;
import java.nio.file.Paths;
import java.util.regex.Matcher;
import java.util.regex.Pattern;

/** Those rules of LANGUAGE.md that can be seen in the text of the program. */
public final class RulesTest {
    private static final String PROGRAM = "src/main/java/AmplifierDesk.java";
    private static final int LONGEST_METHOD = 60;
    private static final String[] FORBIDDEN = {
        "->", "::", "\\btry\\b", "\\bcatch\\b", "\\bfinally\\b", "\\bsynchronized\\b", "\\bassert\\b", "\\bwhile\\b",
        "\\bpackage\\b", "\\bnative\\b", "\\bvolatile\\b", "\\btransient\\b", "\\binstanceof\\b", "\\bvar\\b",
        "static\\s*\\{", "\\bSystem\\b", "\\bThread\\b", "\\bObject\\b", "\\bDouble\\b", "\\bRandom\\b", "Exact\\b",
        "\\bhashCode\\b", "\\btoString\\b", "\\bequals\\b", "@", "\\\\u"};

    public static void main(String[] args) throws IOException {
        String whole = new String(Files.readAllBytes(Paths.get(PROGRAM)), StandardCharsets.ISO_8859_1);
        for (int i = 0; i < whole.length(); i++) {
            if (whole.charAt(i) > 127) {
                Check.equal("sign " + i + " of the program", whole.charAt(i), 127);
            }
        }
        String code = withoutTexts(whole);
        for (String forbidden : FORBIDDEN) {
            Check.equal("uses of " + forbidden, uses(code, forbidden), 0);
        }
        Check.equal("imports", uses(code, "\\bimport\\b"), uses(code, "\\bimport java\\.util\\.Arrays;"));
        Check.equal("library calls", uses(code, "\\b(Math|Arrays|Integer|Long)\\."),
                uses(code, "\\b(Math\\.abs|Arrays\\.fill|Integer\\.bitCount|Long\\.compare)\\("));
        Check.equal("throws", uses(code, "\\bthrow\\b"), uses(code,
                "\\bthrow new (IllegalState|IllegalArgument|IndexOutOfBounds)Exception\\(\"\"\\);"));
        Check.equal("static fields that are not final",
                uses(code, "(?m)^ *(private |public )?static (?!final)[^(]*(;|=)"), 0);
        methodsAreShort(code);
        Check.end();
    }

    /** The program without its comments and without what stands in its texts and signs. */
    private static String withoutTexts(String whole) {
        return whole.replaceAll("(?s)/\\*.*?\\*/", "").replaceAll("//[^\n]*", "")
                .replaceAll("\"[^\"\n]*\"", "\"\"").replaceAll("'[^'\n]+'", "' '");
    }

    private static int uses(String code, String pattern) {
        Matcher matcher = Pattern.compile(pattern).matcher(code);
        int found = 0;
        while (matcher.find()) {
            found++;
        }
        return found;
    }

    /** A method ends with the first brace that stands as deep as its first line. */
    private static void methodsAreShort(String code) {
        String[] lines = code.split("\n");
        for (int i = 0; i < lines.length; i++) {
            if (!lines[i].matches(" +[^=]*\\)[^=;]*\\{") || lines[i].matches(".*\\b(if|for|switch|else)\\b.*")) {
                continue;
            }
            String end = lines[i].replaceAll("\\S.*", "") + "}";
            int length = 1;
            while (i + length < lines.length && !lines[i + length].equals(end)) {
                length++;
            }
            Check.equal("lines of " + lines[i].trim(), Math.max(length, LONGEST_METHOD), LONGEST_METHOD);
        }
    }
}
