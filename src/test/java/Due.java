import java.io.IOException;
import java.nio.charset.StandardCharsets;
import java.nio.file.Files;
import java.nio.file.Path;

/** What the tests share: comparing an answer with the one that is due, and feeding a law's text. */
final class Due {
    interface Call {
        void run();
    }

    private static final Path DOCUMENT = Path.of("..", "shared", "DOC.md");

    private static int wrong = 0;
    private static int looked = 0;
    private static int sentences = 0;
    private static int lookedBefore = 0;
    private static String sentence = "";
    private static String document;

    private Due() {
    }

    /** What is looked at from here on tests this sentence of the document, told in its own words. */
    static void says(String words) {
        endSentence();
        sentences++;
        sentence = words;
        lookedBefore = looked;
        // The words are looked for, so that a test can't outlive the sentence that it is for.
        if (!document().isEmpty() && !document().contains(words)) {
            miss("the document does not say so");
        }
    }

    private static void endSentence() {
        if (!sentence.isEmpty() && looked == lookedBefore) {
            miss("nothing was looked at");
        }
        sentence = "";
    }

    private static String document() {
        if (document == null) {
            try {
                document = Files.exists(DOCUMENT) ? Files.readString(DOCUMENT).replaceAll("\\s+", " ") : "";
            } catch (IOException e) {
                document = "";
            }
        }
        return document;
    }

    private static void miss(String line) {
        wrong++;
        System.out.println((sentence.isEmpty() ? "" : "[" + sentence + "] ") + line);
    }

    static void is(String call, long got, long want) {
        looked++;
        if (got != want) {
            miss(call + " answered " + got + ", due is " + want);
        }
    }

    static void same(String call, Object got, Object want) {
        looked++;
        if (!got.equals(want)) {
            miss(call + " answered " + got + ", due is " + want);
        }
    }

    static void yes(String call, boolean got) {
        is(call, got ? 1 : 0, 1);
    }

    static void no(String call, boolean got) {
        is(call, got ? 1 : 0, 0);
    }

    static void none(String call, Call made) {
        thrown(call, made, "NoSuchElementException");
    }

    static void illegal(String call, Call made) {
        thrown(call, made, "IllegalArgumentException");
    }

    private static void thrown(String call, Call made, String want) {
        looked++;
        String got = "nothing";
        try {
            made.run();
        } catch (RuntimeException e) {
            got = e.getClass().getSimpleName();
        }
        if (!got.equals(want)) {
            miss(call + " threw " + got + ", due is " + want);
        }
    }

    /** Feeds the text, with blanks up to the next twenty bytes. */
    static void feed(FireWards x, String text) {
        feed(x, text.getBytes(StandardCharsets.ISO_8859_1));
    }

    static void feed(FireWards x, byte[] text) {
        for (int at = 0; at < text.length; at += 20) {
            int[] words = new int[5];
            for (int i = 0; i < 20; i++) {
                int b = at + i < text.length ? text[at + i] & 255 : 32;
                words[i / 4] = words[i / 4] << 8 | b;
            }
            x.feed(words[0], words[1], words[2], words[3], words[4]);
        }
    }

    static int law(FireWards x, String text, int day) {
        feed(x, text);
        return x.law(text.length(), day);
    }

    static void end(String name) {
        endSentence();
        String told = sentences == 0 ? "" : " for " + sentences + " sentences";
        System.out.println(name + ": " + looked + " answers looked at" + told + ", " + wrong + " not as due");
        if (wrong != 0 || looked == 0) {
            System.exit(1);
        }
    }
}
