import java.io.IOException;
import java.nio.charset.StandardCharsets;
import java.nio.file.Files;
import java.nio.file.Path;

/** What the tests share: calls whose answers are due, and towns as texts. */
final class Seek {
    private static final Path DOCUMENT = Path.of("../shared/DOC.md");

    private static int wrong = 0;
    private static int asked = 0;
    private static int sentences = 0;
    private static String about = "";
    private static String document = null;

    private Seek() {
    }

    static void due(String call, long got, long want) {
        asked++;
        if (got != want) {
            wrong++;
            if (wrong <= 50) {
                System.out.println(about + call + " answered " + got + ", due is " + want);
            }
        }
    }

    /** What is asked from here on is for these words of the document, which must stand there. */
    static void says(String words) {
        about = "";
        sentences++;
        due("the document says '" + words + "'", Files.notExists(DOCUMENT) || document().contains(words), true);
        about = "'" + words + "': ";
    }

    private static String document() {
        if (document == null) {
            try {
                document = Files.readString(DOCUMENT, StandardCharsets.UTF_8).replaceAll("\\s+", " ");
            } catch (IOException e) {
                throw new IllegalStateException(e);
            }
        }
        return document;
    }

    static void due(String call, boolean got, boolean want) {
        due(call, got ? 1 : 0, want ? 1 : 0);
    }

    /** That a call that has been made answered so, with this STATUS. */
    static void due(TwoSeek x, String call, long got, long want, int status) {
        due(call, got, want);
        due(call + " STATUS", x.status(), status);
    }

    static void due(TwoSeek x, String call, boolean got, boolean want, int status) {
        due(x, call, got ? 1 : 0, want ? 1 : 0, status);
    }

    /** That a call that has been made told a FRACTION. */
    static void dueFraction(TwoSeek x, String call, long top, long bottom) {
        due(call + " top", x.top(), top);
        due(call + " bottom", x.bottom(), bottom);
    }

    static void end() {
        String held = sentences == 0 ? "" : " for " + sentences + " sentences";
        System.out.println(asked + " answers asked" + held + ", " + wrong + " are not as due");
        if (wrong != 0 || asked == 0) {
            System.exit(1);
        }
    }

    static int failures() {
        return wrong;
    }

    /** Feeds a text, with blanks up to the next 20 bytes. */
    static void feed(TwoSeek x, String text) {
        StringBuilder b = new StringBuilder(text);
        while (b.length() % 20 != 0) {
            b.append(' ');
        }
        for (int i = 0; i < b.length(); i += 20) {
            int[] v = new int[5];
            for (int k = 0; k < 20; k++) {
                v[k / 4] = v[k / 4] << 8 | b.charAt(i + k) & 255;
            }
            x.feed(v[0], v[1], v[2], v[3], v[4]);
        }
    }

    static int town(TwoSeek x, String text) {
        feed(x, text);
        return x.town(text.length());
    }

    static TwoSeek in(String text) {
        TwoSeek x = new TwoSeek();
        if (town(x, text) == TwoSeek.NONE) {
            throw new IllegalStateException("no town: " + text);
        }
        return x;
    }

    static void fill(TwoSeek x, int tray, int sort, long... numbers) {
        x.tray(tray, sort, numbers.length);
        for (int i = 0; i < numbers.length; i++) {
            x.write(tray, i, numbers[i]);
        }
    }

    /** A WAY by the CLOCK, by way of TRAY 3. */
    static int clock(TwoSeek x, boolean again, long... steps) {
        fill(x, 3, 0, steps);
        return x.clock(3, steps.length, again);
    }

    /** A WAY by SIGHT, by way of TRAY 3: the numbers of the first MOODS, the others 0. */
    static int sight(TwoSeek x, long... numbers) {
        long[] all = new long[18];
        System.arraycopy(numbers, 0, all, 0, numbers.length);
        fill(x, 3, 0, all);
        return x.sight(3);
    }
}
