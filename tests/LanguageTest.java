import java.io.IOException;
import java.nio.file.Files;
import java.nio.file.Path;
import java.util.List;
import java.util.Map;
import java.util.TreeMap;
import java.util.regex.Matcher;
import java.util.regex.Pattern;

/**
 * Those rules of ../shared/LANGUAGE.md that can be seen in the words of the
 * source; it is run from the project's folder.
 */
public final class LanguageTest {
    private static final Path SOURCE = Path.of("src/main/java/DiscArcs.java");
    private static final int LONGEST_METHOD = 60;
    private static final int MOST_CLASSES = 12;
    private static final int MOST_PARAMETERS = 7;
    private static final int DEEPEST_CALLS = 8;

    private static int wrong = 0;

    private static final List<String> FORBIDDEN = List.of(
            "\\bimport\\b", "\\bpackage\\b", "\\bthrow\\b", "\\bthrows\\b", "\\btry\\b", "\\bcatch\\b",
            "\\bsynchronized\\b", "\\bassert\\b", "\\bprotected\\b", "->", "::", "\\bstatic\\s*\\{",
            "\\bvar\\b", "Exact\\b", "\\bequals\\b", "\\bhashCode\\b", "\\btoString\\b", "\\bObject\\b",
            "\\bThread\\b", "\\bRandom\\b", "\\brandom\\b", "currentTimeMillis", "nanoTime", "getenv",
            "\\bgetClass\\b", "Double\\.", "Character\\.", "Objects\\.", "System\\.(?!arraycopy\\b)",
            "Arrays\\.(?!copyOf\\b|copyOfRange\\b|fill\\b)",
            "(?:Integer|Long)\\.(?!compare\\b|max\\b|min\\b|bitCount\\b|numberOf(?:Leading|Trailing)Zeros\\b)",
            "Math\\.(?!max\\b|min\\b|abs\\b|floorDiv\\b|floorMod\\b)",
            "\\[\\]\\s*\\[\\]\\s*\\[\\]");

    private static void fault(String what) {
        wrong++;
        System.out.println(what);
    }

    /** The source without its comments, with blanks in their place. */
    private static String withoutComments(String source) {
        Matcher matcher = Pattern.compile("//[^\n]*|/\\*.*?\\*/", Pattern.DOTALL).matcher(source);
        return matcher.replaceAll(found -> found.group().replaceAll("[^\n]", " "));
    }

    private static void checkWords(String code) {
        for (String word : FORBIDDEN) {
            Matcher matcher = Pattern.compile(word).matcher(code);
            while (matcher.find()) {
                fault("line " + lineOf(code, matcher.start()) + ": " + matcher.group().strip());
            }
        }
    }

    private static long lineOf(String code, int index) {
        return 1 + code.substring(0, index).chars().filter(c -> c == '\n').count();
    }

    private static void checkSigns(String source) {
        for (int i = 0; i < source.length(); i++) {
            char sign = source.charAt(i);
            if (sign != '\n' && (sign < ' ' || sign > '~')) {
                fault("line " + lineOf(source, i) + ": the sign " + (int) sign);
            }
        }
    }

    private static void checkClasses(String code) {
        long classes = Pattern.compile("\\b(class|record|enum|interface)\\s+\\w+").matcher(code).results().count();
        if (classes > MOST_CLASSES) {
            fault(classes + " classes");
        }
    }

    private static void checkMethods(String code) {
        Pattern head = Pattern.compile("^( +)[\\w\\[\\] ]*\\b(\\w+)\\(([^()]*)\\) \\{$", Pattern.MULTILINE);
        Matcher matcher = head.matcher(code);
        Map<String, String> bodies = new TreeMap<>();
        while (matcher.find()) {
            if (matcher.group().matches(" *(if|for|while|switch|else|return)\\b.*")) {
                continue;
            }
            long line = lineOf(code, matcher.start());
            int end = code.indexOf("\n" + matcher.group(1) + "}", matcher.end());
            if (lineOf(code, end) - line > LONGEST_METHOD) {
                fault("line " + line + ": a method of more than " + LONGEST_METHOD + " lines");
            }
            if (matcher.group(3).split(",").length > MOST_PARAMETERS) {
                fault("line " + line + ": more than " + MOST_PARAMETERS + " parameters");
            }
            // Names that stand once are what makes a name enough to follow a call by.
            if (bodies.put(matcher.group(2), code.substring(matcher.end(), end)) != null) {
                fault("line " + line + ": a second " + matcher.group(2));
            }
        }
        for (String name : bodies.keySet()) {
            if (depthOf(name, bodies, 1) > DEEPEST_CALLS) {
                fault(name + " calls deeper than " + DEEPEST_CALLS);
            }
        }
    }

    /** How deep the calls of a method go, with itself and the library's; a recursion goes deeper than is due. */
    private static int depthOf(String name, Map<String, String> bodies, int depth) {
        int deepest = depth;
        Matcher call = Pattern.compile("\\b(\\w+)\\(").matcher(bodies.getOrDefault(name, ""));
        while (depth <= DEEPEST_CALLS && call.find()) {
            deepest = Math.max(deepest, depthOf(call.group(1), bodies, depth + 1));
        }
        return deepest;
    }

    public static void main(String[] args) throws IOException {
        String source = Files.readString(SOURCE);
        checkSigns(source);
        String code = withoutComments(source);
        checkWords(code);
        checkClasses(code);
        checkMethods(code);
        System.out.println(wrong == 0 ? "the language is as due" : wrong + " faults of the language");
        if (wrong != 0) {
            System.exit(1);
        }
    }
}
