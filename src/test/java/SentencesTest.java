import java.nio.charset.StandardCharsets;
import java.nio.file.DirectoryStream;
import java.nio.file.Files;
import java.nio.file.Path;
import java.util.ArrayList;
import java.util.List;
import java.util.regex.Matcher;
import java.util.regex.Pattern;

/** That every sentence of the document, from its terms to its last promise, stands over a test of a boundary case. */
final class SentencesTest {
    private static final Pattern SAYS = Pattern.compile("says\\(\"((?:[^\"\\\\]|\\\\.)*)\"\\)");
    // Neither promises nor sentences: headings, fences, signatures, where calls stand in the interface.
    private static final Pattern NO_SENTENCE = Pattern.compile(
        "(?m)^#.*$|^```.*$|`[^`\\n]*`: |^Ahead of the calls .*$|======== \\d [A-Z]+");

    public static void main(String[] args) throws Exception {
        String text = Bounds.document();
        if (text.isEmpty()) {
            System.out.println("SentencesTest: ../shared/DOC.md is not there");
            return;
        }
        boolean[] said = new boolean[text.length()];
        for (String words : quoted()) {
            int at = text.indexOf(words);
            Due.isTrue(at >= 0, "the document does not say: " + words);
            Due.isTrue(text.indexOf(words, at + 1) < 0 || at < 0, "the document says more than once: " + words);
            for (int i = at; i >= 0 && i < at + words.length(); i++) said[i] = true;
        }
        Matcher none = NO_SENTENCE.matcher(text);
        while (none.find()) for (int i = none.start(); i < none.end(); i++) said[i] = true;
        int from = text.indexOf("BAD -1: a number");
        int to = text.indexOf("## Not promised");
        Due.isTrue(from > 0 && to > from, "the document is another one");
        for (int i = from; i < to; i++) {
            if (said[i]) continue;
            int end = i;
            while (end < to && !said[end]) end++;
            String left = text.substring(i, end);
            Due.isTrue(!left.matches("(?s).*\\w.*"), "without a test: " + left.strip());
            i = end;
        }
        Due.end("SentencesTest");
    }

    private static List<String> quoted() throws Exception {
        List<String> all = new ArrayList<>();
        try (DirectoryStream<Path> files = Files.newDirectoryStream(Path.of("src/test/java"), "*BoundsTest.java")) {
            for (Path file : files) {
                Matcher m = SAYS.matcher(Files.readString(file, StandardCharsets.UTF_8));
                while (m.find()) all.add(m.group(1).replace("\\\"", "\""));
            }
        }
        return all;
    }
}
