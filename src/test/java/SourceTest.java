import java.util.regex.Matcher;
import java.util.regex.Pattern;

/** Rules of LANGUAGE.md that the source's words tell. */
final class SourceTest {
    private static final String[] WORDS = {
        "package", "import", "throw", "throws", "try", "catch", "finally", "synchronized", "assert", "volatile",
        "transient", "native", "instanceof", "var", "Object", "System.out", "System.in", "Thread", "Random",
        "hashCode", "toString", "equals", "protected"};

    private SourceTest() {
    }

    static void test(Check check, String source) {
        check.begin("the source");
        String code = source.replaceAll("(?s)/\\*.*?\\*/", " ").replaceAll("//[^\n]*", " ");
        for (String word : WORDS) {
            check.holds("no " + word, !Pattern.compile("\\b" + Pattern.quote(word) + "\\b").matcher(code).find());
        }
        check.holds("no lambda and no method reference", !code.contains("->") && !code.contains("::"));
        check.holds("one public class", count(code, "\\bpublic\\s+final\\s+class\\b") == 1);
        check.holds("at most twelve classes", count(code, "\\b(class|record|enum|interface)\\s+[A-Z]") <= 12);
        check.holds("every class inside is static", count(code, "\\bprivate\\s+static\\s+final\\s+class\\b")
                == count(code, "\\bclass\\b") - 1);
        check.holds("static state is final", count(code, "\\bstatic\\s+(?!final\\b)[^(;={]*[;=]") == 0);
        check.holds("only signs 10 to 126", source.chars().allMatch(sign -> sign == 10 || sign >= 32 && sign <= 126));
        methodsAreShort(check, code);
    }

    private static int count(String code, String pattern) {
        Matcher matcher = Pattern.compile(pattern).matcher(code);
        int found = 0;
        while (matcher.find()) {
            found++;
        }
        return found;
    }

    private static void methodsAreShort(Check check, String code) {
        Matcher matcher = Pattern.compile("(?m)^( +)[^\\n]*\\)\\s*\\{$(?s:.*?)^\\1\\}$").matcher(code);
        while (matcher.find()) {
            int lines = matcher.group().split("\n").length;
            check.holds("at most sixty lines, not " + lines + ": " + matcher.group().split("\n")[0], lines <= 60);
        }
    }
}
