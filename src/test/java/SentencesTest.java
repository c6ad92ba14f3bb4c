import java.io.IOException;
import java.nio.file.DirectoryStream;
import java.nio.file.Files;
import java.nio.file.Path;
import java.util.regex.Matcher;
import java.util.regex.Pattern;

/** No sentence of the document's Terms and promises is without a test that quotes it. */
public final class SentencesTest {
    private static final Check CHECK = new Check();
    private static final Pattern QUOTE = Pattern.compile("\\.sentence\\((\\d+), \"((?:[^\"\\\\]|\\\\.)*)\"\\)");
    /** What is no sentence: a block's marks, the numbers of Terms, a method's head, stops between sentences. */
    private static final Pattern NO_SENTENCE =
        Pattern.compile("```text|(?m:^(I|II|III|IV)\\.)|`(int|long) \\w+\\([^`]*\\)`|`LetterQuay\\(\\)`|[.,:;`]");
    private static final char TESTED = ' ';

    public static void main(String[] args) throws IOException {
        StringBuilder[] left = new StringBuilder[Doc.PROMISES + 1];
        for (int promise = 0; promise <= Doc.PROMISES; promise++) {
            left[promise] = new StringBuilder(Doc.section(promise));
            CHECK.so("promise " + promise + " is there", left[promise].length() > 0);
        }
        try (DirectoryStream<Path> files = Files.newDirectoryStream(Path.of("src", "test", "java"), "*Test.java")) {
            for (Path file : files) {
                Matcher m = QUOTE.matcher(Files.readString(file));
                while (m.find()) {
                    int promise = Integer.parseInt(m.group(1));
                    strike(Doc.section(promise), left[promise], m.group(2).replace("\\\"", "\""));
                }
            }
        }
        for (int promise = 0; promise <= Doc.PROMISES; promise++) {
            String open = NO_SENTENCE.matcher(left[promise]).replaceAll("").trim();
            CHECK.so("promise " + promise + " says what no test quotes: " + open, open.isEmpty());
        }
        CHECK.finish();
    }

    /** Quotes may overlap, so each is looked for in the section as it is. */
    private static void strike(String section, StringBuilder left, String quote) {
        for (int at = section.indexOf(quote); at >= 0; at = section.indexOf(quote, at + 1)) {
            for (int k = at; k < at + quote.length(); k++) {
                left.setCharAt(k, TESTED);
            }
        }
    }
}
