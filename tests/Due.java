import java.io.IOException;
import java.nio.charset.StandardCharsets;
import java.nio.file.Files;
import java.nio.file.Path;

/** Counts the answers that are not as due, sentence by sentence of the document, and makes objects from texts. */
final class Due {
    private final String document = readDocument();
    private String sentence = "";
    private int sentences = 0;
    private int askedOfIt = 1;
    private int asked = 0;
    private int wrong = 0;

    /** What is asked from here on shows that these words of the document hold; they must stand in it. */
    void says(String words) {
        closeSentence();
        sentence = words;
        sentences++;
        askedOfIt = 0;
        if (!document.isEmpty() && !document.contains(words)) {
            fail("the document does not say: " + words);
        }
    }

    void is(String call, long got, long want) {
        asked++;
        askedOfIt++;
        if (got != want) {
            fail((sentence.isEmpty() ? "" : "[" + sentence + "] ") + call + " answered " + got + ", due is " + want);
        }
    }

    void holds(String what, boolean kept) {
        is(what, kept ? 1 : 0, 1);
    }

    void end() {
        closeSentence();
        String of = sentences == 0 ? "" : " to " + sentences + " sentences";
        System.out.println(asked + " answers" + of + ", " + wrong + " not as due");
        if (wrong != 0 || asked == 0) {
            System.exit(1);
        }
    }

    private void closeSentence() {
        if (askedOfIt == 0) {
            fail("nothing was asked of: " + sentence);
        }
    }

    private void fail(String how) {
        wrong++;
        if (wrong <= 40) {
            System.out.println(how);
        }
    }

    /** All of it in one line; empty if the tests run without it. */
    private static String readDocument() {
        String path = System.getProperty("doc");
        if (path == null || !Files.exists(Path.of(path))) {
            return "";
        }
        try {
            return new String(Files.readAllBytes(Path.of(path)), StandardCharsets.UTF_8).replaceAll("\\s+", " ");
        } catch (IOException told) {
            return "";
        }
    }

    static OnlySideways with(String shapes, String house) {
        OnlySideways x = new OnlySideways();
        typeAll(x, 0, shapes);
        typeAll(x, 1, house);
        return x;
    }

    static void typeAll(OnlySideways x, int text, String bytes) {
        for (int i = 0; i < bytes.length(); i++) {
            x.type(text, bytes.charAt(i));
        }
    }

    /** A house without walls. */
    static String house(int rows, int width) {
        String row = ".".repeat(width);
        return row + (";" + row).repeat(rows - 1);
    }
}
