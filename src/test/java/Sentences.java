import java.io.IOException;
import java.nio.file.Files;
import java.nio.file.Path;
import java.util.ArrayList;
import java.util.List;

/** The tests that quote the document, and the document itself, to see that no sentence of it is without one. */
final class Sentences {
    private record Quote(String section, String words) {
    }

    private static final List<Quote> QUOTES = new ArrayList<>();
    private static String section = "";

    private Sentences() {
    }

    static void section(String name) {
        section = name;
    }

    /** Runs the test of these words of the document. */
    static void says(String words, Runnable test) {
        Check.at(section + ", \"" + words + "\": ");
        QUOTES.add(new Quote(section, words));
        int before = Check.asked();
        try {
            test.run();
        } catch (RuntimeException e) {
            Check.fail("the test ended by " + e + " at " + e.getStackTrace()[0]);
        }
        Check.isTrue("the test asks nothing", Check.asked() > before);
    }

    /** Words that name nothing that a call could show. */
    static void saysNothingToTest(String words) {
        QUOTES.add(new Quote(section, words));
    }

    static void compareWith(Path document) throws IOException {
        Check.at("");
        String name = "";
        List<Quote> found = new ArrayList<>();
        for (String line : Files.readAllLines(document)) {
            if (line.startsWith("## ")) {
                name = line.substring(3).replaceAll(":.*", "");
            } else if (name.equals("What it is") || name.equals("Terms") || name.startsWith("Promise")) {
                compareLine(name, line, found);
            }
        }
        for (Quote quote : QUOTES) {
            Check.isTrue("the document does not say, in " + quote, found.contains(quote));
        }
    }

    private static void compareLine(String name, String line, List<Quote> found) {
        for (Quote quote : QUOTES) {
            if (quote.section.equals(name) && line.contains(quote.words)) {
                found.add(quote);
            }
        }
        for (String sentence : line.replaceFirst("^`[^`]*`: ", "").split("(?<=[.]) (?=[A-Z])")) {
            boolean quoted = sentence.isBlank();
            for (Quote quote : QUOTES) {
                quoted |= quote.section.equals(name)
                        && (sentence.contains(quote.words) || quote.words.contains(sentence) && line.contains(quote.words));
            }
            Check.isTrue("no test quotes, in " + name + ", \"" + sentence + "\"", quoted);
        }
    }
}
