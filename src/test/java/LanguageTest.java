import java.io.IOException;
import java.nio.charset.StandardCharsets;
import java.nio.file.Files;
import java.nio.file.Path;
import java.util.Set;
import java.util.regex.Matcher;
import java.util.regex.Pattern;

/** Those rules of the language that the text of the source shows; run from the project's folder. */
final class LanguageTest {
    private static final String[] RULED_OUT = {
        "->", "::", "\\bimport\\b", "\\bpackage\\b", "\\btry\\b", "\\bcatch\\b", "\\bfinally\\b", "\\bassert\\b",
        "\\bsynchronized\\b", "\\bvolatile\\b", "\\bprotected\\b", "\\binstanceof\\b", "\\bvar\\b", "\\brecord\\b",
        "\\bnull\\b", "\\bObject\\b", "\\bThread\\b", "\\bRandom\\b", "\\bequals\\b", "\\bhashCode\\b",
        "\\btoString\\b", "\\bwhile\\s*\\(\\s*true", "\\bfor\\s*\\(\\s*;\\s*;", "\\bstatic\\s*\\{"};
    private static final Set<String> LIBRARY = Set.of("Math.floorMod", "Math.max", "Math.min", "System.arraycopy");
    private static final Set<String> EXCEPTIONS =
            Set.of("IndexOutOfBoundsException", "IllegalArgumentException", "IllegalStateException");

    private LanguageTest() {
    }

    public static void main(String[] args) throws IOException {
        String source = Files.readString(Path.of("src/main/java/DoorChase.java"), StandardCharsets.UTF_8);
        signs(source);
        String code = source.replaceAll("(?s)/\\*.*?\\*/|//[^\n]*", "").replaceAll("\"[^\"\n]*\"", "\"\"");
        for (String pattern : RULED_OUT) {
            Due.is("'" + pattern + "' in the code", Pattern.compile(pattern).matcher(code).find(), false);
        }
        library(code);
        thrown(code);
        rowsOnlyInFields(code);
        lengths(code);
        Due.end("LanguageTest");
    }

    private static void signs(String source) {
        for (int i = 0; i < source.length(); i++) {
            if (source.charAt(i) < 1 || source.charAt(i) > 127) {
                Due.is("sign " + i, (int) source.charAt(i), "1 to 127");
            }
        }
    }

    private static void library(String code) {
        Matcher uses = Pattern.compile("\\b(Math|System|Arrays|Integer|Long|String|List)\\s*\\.\\s*(\\w+)").matcher(code);
        while (uses.find()) {
            String use = uses.group(1) + "." + uses.group(2);
            Due.is("'" + use + "' in the library", LIBRARY.contains(use), true);
        }
    }

    private static void thrown(String code) {
        Matcher throwing = Pattern.compile("\\bthrow\\b\\s*(\\w+)\\s*(\\w+)\\s*\\(\\s*(?:\"\")?\\s*\\)").matcher(code);
        int found = 0;
        while (throwing.find()) {
            found++;
            Due.is("after throw", throwing.group(1), "new");
            Due.is(throwing.group(2) + " thrown", EXCEPTIONS.contains(throwing.group(2)), true);
        }
        Due.is("every throw is of that form", (int) Pattern.compile("\\bthrow\\b").matcher(code).results().count(), found);
    }

    // What is made anew by each call would add up in the one room of a run.
    private static void rowsOnlyInFields(String code) {
        for (String line : code.split("\n")) {
            if (line.matches(".*\\bnew\\b.*")) {
                Due.is("made in a field or thrown: " + line.trim(),
                        line.matches("\\s*(private )?final .*|\\s*throw new .*"), true);
            }
        }
    }

    // A method's body ends where its own indentation comes again.
    private static void lengths(String code) {
        Matcher methods = Pattern.compile("(?m)^( +)(?:public |private |static )*\\w[\\w\\[\\]]* \\w+\\(([^)]*)\\)[^;{]*\\{\n"
                + "((?:.*\n)*?)\\1\\}").matcher(code);
        int found = 0;
        while (methods.find()) {
            found++;
            String head = methods.group().split("\n")[0].trim();
            Due.is(head + " is short", methods.group(3).split("\n").length <= 60, true);
            Due.is(head + " takes at most seven", methods.group(2).split(",").length <= 7, true);
        }
        Due.is("methods found", found > 50, true);
    }
}
