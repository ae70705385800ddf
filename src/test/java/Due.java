import java.nio.charset.StandardCharsets;

/** What the tests share: comparing an answer with the one that is due, and feeding a law's text. */
final class Due {
    interface Call {
        void run();
    }

    private static int wrong = 0;
    private static int looked = 0;

    private Due() {
    }

    static void is(String call, long got, long want) {
        looked++;
        if (got != want) {
            wrong++;
            System.out.println(call + " answered " + got + ", due is " + want);
        }
    }

    static void yes(String call, boolean got) {
        is(call, got ? 1 : 0, 1);
    }

    static void no(String call, boolean got) {
        is(call, got ? 1 : 0, 0);
    }

    static void none(String call, Call made) {
        thrown(call, made, "NoSuchElementException");
    }

    static void illegal(String call, Call made) {
        thrown(call, made, "IllegalArgumentException");
    }

    private static void thrown(String call, Call made, String want) {
        looked++;
        String got = "nothing";
        try {
            made.run();
        } catch (RuntimeException e) {
            got = e.getClass().getSimpleName();
        }
        if (!got.equals(want)) {
            wrong++;
            System.out.println(call + " threw " + got + ", due is " + want);
        }
    }

    /** Feeds the text, with blanks up to the next twenty bytes. */
    static void feed(FireWards x, String text) {
        feed(x, text.getBytes(StandardCharsets.ISO_8859_1));
    }

    static void feed(FireWards x, byte[] text) {
        for (int at = 0; at < text.length; at += 20) {
            int[] words = new int[5];
            for (int i = 0; i < 20; i++) {
                int b = at + i < text.length ? text[at + i] & 255 : 32;
                words[i / 4] = words[i / 4] << 8 | b;
            }
            x.feed(words[0], words[1], words[2], words[3], words[4]);
        }
    }

    static int law(FireWards x, String text, int day) {
        feed(x, text);
        return x.law(text.length(), day);
    }

    static void end(String name) {
        System.out.println(name + ": " + looked + " answers looked at, " + wrong + " not as due");
        if (wrong != 0 || looked == 0) {
            System.exit(1);
        }
    }
}
