import java.io.IOException;
import java.nio.file.Files;
import java.nio.file.Path;
import java.util.List;
import java.util.regex.Matcher;
import java.util.regex.Pattern;

/** The source keeps to those rules of LANGUAGE.md that can be seen from its words; started where README.md is. */
public final class LanguageTest {
    private static final Path SOURCE = Path.of("src", "main", "java", "SignQuorum.java");

    // The rule's number, and a pattern of what it rules out.
    private static final String[][] RULED_OUT = {
        {"of the first lines", "\\bpackage "},
        {"2", "->|::"},
        {"4", "\\bimport (?!java\\.util\\.(ArrayList|List|Iterator|Arrays|NoSuchElementException);)"},
        {"4", "\\w+Exact\\b|\\bSystem\\.(?!arraycopy)"},
        {"5", "\\bstatic (?!final |class )(?!\\w+ \\w+\\()|\\bstatic \\{"},
        {"6", "\\b(finally|synchronized|assert|hashCode|getMessage)\\b|\\btry *\\("},
        {"9", "\\bwhile *\\( *true|\\bfor *\\([^;]*; *;"},
        {"13", "\\b(Thread|Random|random|nanoTime|currentTimeMillis)\\b"}};

    private static final int MOST_CLASSES = 12;
    private static final int MOST_PARAMETERS = 7;
    private static final int MOST_LINES = 60;

    private static final Pattern METHOD =
        Pattern.compile("^( +)(?:(?:public|private|static|final) )*[\\w\\[\\]]* ?\\w+\\(([^()]*)\\)[\\w ]* \\{$");

    public static void main(String[] args) throws IOException {
        Check check = new Check();
        String text = withoutComments(Files.readString(SOURCE));
        for (String[] rule : RULED_OUT) {
            Matcher m = Pattern.compile(rule[1]).matcher(text);
            boolean found = m.find();
            check.no("rule " + rule[0] + " is broken" + (found ? " by " + m.group() : ""), found);
        }
        // The document lets digest alone throw, so no other throw is of use here.
        check.same("rule 6: throw statements", count(text, "\\bthrow\\b"), 1);
        check.yes("rule 11: classes", count(text, "\\b(class|enum|record|interface) \\w+") <= MOST_CLASSES);
        lookAtMethods(check, List.of(text.split("\n")));
        check.end();
    }

    private static String withoutComments(String source) {
        return source.replaceAll("(?s)/\\*.*?\\*/", "").replaceAll("//[^\n]*", "");
    }

    private static long count(String text, String regex) {
        return Pattern.compile(regex).matcher(text).results().count();
    }

    private static void lookAtMethods(Check check, List<String> lines) {
        int methods = 0;
        for (int i = 0; i < lines.size(); i++) {
            Matcher m = METHOD.matcher(lines.get(i));
            if (!m.matches() || lines.get(i).matches(" +(if|for|switch|else|return).*")) {
                continue;
            }
            methods++;
            String name = lines.get(i).trim();
            int length = 1 + lines.subList(i, lines.size()).indexOf(m.group(1) + "}");
            check.yes("rule 11: " + length + " lines of " + name, length > 1 && length <= MOST_LINES);
            check.yes("rule 11: parameters of " + name, m.group(2).split(",").length <= MOST_PARAMETERS);
        }
        check.yes("methods were found: " + methods, methods > 60);
    }
}
