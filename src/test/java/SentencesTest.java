import java.io.IOException;
import java.nio.file.Files;
import java.nio.file.Path;
import java.util.ArrayList;
import java.util.List;
import java.util.Set;
import java.util.TreeSet;
import java.util.regex.Matcher;
import java.util.regex.Pattern;

/** Each promise and each part of "Terms" has tests that name it, and what they quote is what the document says there. */
public final class SentencesTest {
    private static final Pattern ABOUT = Pattern.compile("Check\\.about\\(\"([^\"]*)\", \"([^\"]*)\"\\)");
    private static final String[] PARTS = {"NUMBERS", "1", "2", "3", "4", "5", "answers"};
    private static final int PROMISES = 49;

    public static void main(String[] args) throws IOException {
        List<String[]> quotes = quotes();
        everyPlaceIsNamed(quotes);
        everyQuoteStandsThere(quotes);
        Check.end("SentencesTest");
    }

    private static List<String[]> quotes() throws IOException {
        List<String[]> quotes = new ArrayList<>();
        List<Path> files;
        try (var listing = Files.list(Path.of("src/test/java"))) {
            files = listing.filter(file -> file.getFileName().toString().startsWith("Edges")).toList();
        }
        for (Path file : files) {
            Matcher about = ABOUT.matcher(Files.readString(file));
            while (about.find()) {
                quotes.add(new String[] {about.group(1), about.group(2)});
            }
        }
        return quotes;
    }

    private static void everyPlaceIsNamed(List<String[]> quotes) {
        Set<String> named = new TreeSet<>();
        for (String[] quote : quotes) {
            named.add(quote[0]);
        }
        for (int number = 1; number <= PROMISES; number++) {
            Check.yes("a test names promise " + number, named.remove("Promise " + number));
        }
        for (String part : PARTS) {
            Check.yes("a test names Terms " + part, named.remove("Terms " + part));
        }
        Check.yes("no other places are named: " + named, named.isEmpty());
    }

    private static void everyQuoteStandsThere(List<String[]> quotes) throws IOException {
        Path document = Path.of("../shared/DOC.md");
        if (!Files.exists(document)) {
            System.out.println("the document is not there, so no quote is held against it");
            return;
        }
        String words = Files.readString(document).replaceAll("\\s+", " ");
        for (String[] quote : quotes) {
            Check.yes(quote[0] + " says \"" + quote[1] + "\"", section(words, quote[0]).contains(quote[1]));
        }
    }

    private static String section(String words, String place) {
        int from = words.indexOf(place.startsWith("Promise") ? "## " + place + ":" : "## Terms");
        int to = words.indexOf(" ## ", from + 3);
        return from < 0 ? "" : words.substring(from, to < 0 ? words.length() : to);
    }
}
