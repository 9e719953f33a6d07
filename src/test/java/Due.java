import java.io.IOException;
import java.io.UncheckedIOException;
import java.nio.file.Files;
import java.nio.file.Path;

/** Counts answers, and prints those that are not due, with the promise and the sentence that they belong to. */
final class Due {
    private static final Path DOCUMENT = Path.of("../shared/DOC.md");

    private final String name;
    private String document;
    private int promise;
    private String sentence = "";
    private int sentences;
    private int sinceSentence;
    private int right;
    private int wrong;

    Due(String name) {
        this.name = name;
    }

    /** A new object with one STREET of these WIDTHS, without DEPTHS and KINKS. */
    static KinkStreet street(int... widths) {
        KinkStreet x = new KinkStreet();
        x.street();
        for (int w : widths) {
            x.plot(0, w, 99000);
        }
        return x;
    }

    /** A new object with one STREET of 100 wide PLOTS with these DEPTHS, without KINKS. */
    static KinkStreet deep(int... depths) {
        KinkStreet x = new KinkStreet();
        x.street();
        for (int d : depths) {
            x.plot(0, 100, 99000 + d);
        }
        return x;
    }

    /** A new object with one STREET of 100 wide PLOTS with these ASIDES. */
    static KinkStreet aside(int... asides) {
        KinkStreet x = new KinkStreet();
        x.street();
        for (int a : asides) {
            x.plot(0, 100, 1000 * (99 + a));
        }
        return x;
    }

    /** Feeds a TEXT and makes it a LAW. */
    static int law(KinkStreet x, String text) {
        for (int i = 0; i < text.length(); i++) {
            x.feed(1, text.charAt(i));
        }
        return x.law();
    }

    void promise(int number) {
        endSentence();
        promise = number;
        sentence = "";
    }

    /** What the document says word by word: the answers that follow would not be due without it. */
    void says(String words) {
        endSentence();
        sentence = words;
        sentences++;
        sinceSentence = 0;
        holds("the document says so", documentText().contains(oneLine(words)));
        sinceSentence = 0;
    }

    private void endSentence() {
        if (!sentence.isEmpty() && sinceSentence == 0) {
            holds("has an answer of its own", false);
        }
    }

    private String documentText() {
        if (document == null) {
            try {
                document = oneLine(Files.readString(DOCUMENT));
            } catch (IOException e) {
                throw new UncheckedIOException(e);
            }
        }
        return document;
    }

    private static String oneLine(String text) {
        return text.replaceAll("\\s+", " ");
    }

    void is(String call, long got, long want) {
        sinceSentence++;
        if (got == want) {
            right++;
        } else {
            wrong++;
            System.out.println("promise " + promise + ": " + call + " answered " + got + ", due is " + want
                + (sentence.isEmpty() ? "" : ", as the document says: " + sentence));
        }
    }

    void holds(String what, boolean is) {
        is(what, is ? 1 : 0, 1);
    }

    void end() {
        endSentence();
        System.out.println(name + ": " + right + " answers as due, " + wrong + " not"
            + (sentences > 0 ? ", by " + sentences + " sentences" : ""));
        if (wrong != 0 || right == 0) {
            System.exit(1);
        }
    }
}
