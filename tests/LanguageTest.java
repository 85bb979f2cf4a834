import java.io.IOException;
import java.nio.file.Files;
import java.nio.file.Path;
import java.util.List;
import java.util.regex.Matcher;
import java.util.regex.Pattern;

/**
 * Those rules of ../shared/LANGUAGE.md that can be seen in the words of the
 * source; it is run from the project's folder.
 */
public final class LanguageTest {
    private static final Path SOURCE = Path.of("src/main/java/DiscArcs.java");
    private static final int LONGEST_METHOD = 60;
    private static final int MOST_CLASSES = 12;
    private static final int MOST_PARAMETERS = 7;

    private static int wrong = 0;

    private static final List<String> FORBIDDEN = List.of(
            "\\bimport\\b", "\\bpackage\\b", "\\bthrow\\b", "\\bthrows\\b", "\\btry\\b", "\\bcatch\\b",
            "\\bsynchronized\\b", "\\bassert\\b", "\\bprotected\\b", "->", "::", "\\bstatic\\s*\\{",
            "\\bvar\\b", "Exact\\b", "\\bequals\\b", "\\bhashCode\\b", "\\btoString\\b", "\\bObject\\b",
            "\\bThread\\b", "\\bRandom\\b", "\\brandom\\b", "currentTimeMillis", "nanoTime", "getenv",
            "\\bgetClass\\b", "Double\\.", "Character\\.", "Objects\\.", "System\\.(?!arraycopy\\b)",
            "Arrays\\.(?!copyOf\\b|copyOfRange\\b|fill\\b)");

    private static void fault(String what) {
        wrong++;
        System.out.println(what);
    }

    /** The source without its comments, with blanks in their place. */
    private static String withoutComments(String source) {
        Matcher matcher = Pattern.compile("//[^\n]*|/\\*.*?\\*/", Pattern.DOTALL).matcher(source);
        return matcher.replaceAll(found -> found.group().replaceAll("[^\n]", " "));
    }

    private static void checkWords(String code) {
        for (String word : FORBIDDEN) {
            Matcher matcher = Pattern.compile(word).matcher(code);
            while (matcher.find()) {
                fault("line " + lineOf(code, matcher.start()) + ": " + matcher.group().strip());
            }
        }
    }

    private static long lineOf(String code, int index) {
        return 1 + code.substring(0, index).chars().filter(c -> c == '\n').count();
    }

    private static void checkClasses(String code) {
        long classes = Pattern.compile("\\b(class|record|enum|interface)\\s+\\w+").matcher(code).results().count();
        if (classes > MOST_CLASSES) {
            fault(classes + " classes");
        }
    }

    private static void checkMethods(String code) {
        Pattern head = Pattern.compile("^( +)[\\w\\[\\] ]*\\b\\w+\\(([^()]*)\\) \\{$", Pattern.MULTILINE);
        Matcher matcher = head.matcher(code);
        while (matcher.find()) {
            if (matcher.group().matches(" *(if|for|while|switch|else|return)\\b.*")) {
                continue;
            }
            long line = lineOf(code, matcher.start());
            int end = code.indexOf("\n" + matcher.group(1) + "}", matcher.end());
            if (lineOf(code, end) - line > LONGEST_METHOD) {
                fault("line " + line + ": a method of more than " + LONGEST_METHOD + " lines");
            }
            if (matcher.group(2).split(",").length > MOST_PARAMETERS) {
                fault("line " + line + ": more than " + MOST_PARAMETERS + " parameters");
            }
        }
    }

    public static void main(String[] args) throws IOException {
        String code = withoutComments(Files.readString(SOURCE));
        checkWords(code);
        checkClasses(code);
        checkMethods(code);
        System.out.println(wrong == 0 ? "the language is as due" : wrong + " faults of the language");
        if (wrong != 0) {
            System.exit(1);
        }
    }
}
