import java.io.IOException;
import java.nio.file.Files;
import java.nio.file.Path;

/** Counts answers that are not as due, and ends a test with exit code 1 if there was one. */
final class Check {
    private static final Path DOCUMENT = Path.of("../shared/DOC.md");
    private final String document = wordsOf(DOCUMENT);
    private String sentence = "";
    private int asked = 0;
    private int wrong = 0;
    private int sentences = 0;
    private int askedOfSentence = 0;

    /** Begins the test of one sentence of the document; what is wrong from here on is told with it. */
    void sentence(String quote) {
        endSentence();
        sentence = quote;
        sentences++;
        holds("the document says it in these words", document.isEmpty() || document.contains(quote));
        askedOfSentence = 0;
    }

    private void endSentence() {
        if (!sentence.isEmpty()) {
            holds("something was asked", askedOfSentence > 0);
        }
    }

    void due(String call, long got, long want) {
        asked++;
        askedOfSentence++;
        if (got != want) {
            wrong++;
            String where = sentence.isEmpty() ? "" : "\"" + sentence + "\": ";
            System.out.println(where + call + " answered " + got + ", due is " + want);
        }
    }

    void holds(String what, boolean so) {
        due(what, so ? 1 : 0, 1);
    }

    void finish() {
        endSentence();
        String of = sentences == 0 ? "" : " (" + sentences + " sentences)";
        System.out.println(asked - wrong + " answers as due, " + wrong + " not as due" + of);
        if (wrong != 0 || asked == 0) {
            System.exit(1);
        }
    }

    /** The words of a file with one space between them; nothing if it can't be read. */
    private static String wordsOf(Path file) {
        try {
            return Files.readString(file).replaceAll("\\s+", " ");
        } catch (IOException e) {
            return "";
        }
    }

    /** An object with these houses and brides. */
    static BrideDoors told(String houses, String brides) {
        BrideDoors x = new BrideDoors();
        typeAll(x, 0, houses);
        typeAll(x, 1, brides);
        return x;
    }

    /** An object with these houses, brides and events, three numbers for each of these. */
    static BrideDoors told(String houses, String brides, int... events) {
        BrideDoors x = told(houses, brides);
        for (int i = 0; i + 2 < events.length; i += 3) {
            x.event(events[i], events[i + 1], events[i + 2]);
        }
        return x;
    }

    static void typeAll(BrideDoors x, int text, String signs) {
        for (int i = 0; i < signs.length(); i++) {
            x.type(text, signs.charAt(i));
        }
    }

    static void retype(BrideDoors x, int text, String signs) {
        x.wipe(text);
        typeAll(x, text, signs);
    }

    /** A new sheet with these items. */
    static void fill(BrideDoors x, int s, int form, int... items) {
        x.sheet(s, form, items.length);
        for (int i = 0; i < items.length; i++) {
            x.lay(s, form, i, items[i]);
        }
    }
}
