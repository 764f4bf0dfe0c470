import java.nio.charset.StandardCharsets;
import java.util.Arrays;

/** Compares answers with those that are due, and feeds texts. */
final class Tester {
    private int asked = 0;
    private int wrong = 0;
    private String about = "";

    void about(String what) {
        about = what;
    }

    void due(String call, long got, long want) {
        asked++;
        if (got != want) {
            wrong++;
            System.out.println(about + ": " + call + " answered " + got + ", due is " + want);
        }
    }

    void due(String call, boolean got, boolean want) {
        due(call, got ? 1 : 0, want ? 1 : 0);
    }

    /** The answers of one call after another, by words: "a,b,c". */
    void dueRow(String call, String got, String want) {
        asked++;
        if (!got.equals(want)) {
            wrong++;
            System.out.println(about + ": " + call + " answered " + got + ", due is " + want);
        }
    }

    void end() {
        System.out.println(asked + " answers looked at, " + wrong + " wrong");
        if (wrong > 0 || asked == 0) {
            System.exit(1);
        }
    }

    static int[] numbers(byte[] bytes) {
        byte[] whole = Arrays.copyOf(bytes, (bytes.length + 19) / 20 * 20);
        Arrays.fill(whole, bytes.length, whole.length, (byte) 32);
        int[] row = new int[whole.length / 4];
        for (int i = 0; i < whole.length; i++) {
            row[i / 4] = row[i / 4] << 8 | whole[i] & 255;
        }
        return row;
    }

    static byte[] bytes(String text) {
        return text.getBytes(StandardCharsets.ISO_8859_1);
    }

    /** Feeds a text to an empty tape and makes it the object's text. */
    static int tell(LastHouse x, String text) {
        int[] row = numbers(bytes(text));
        for (int i = 0; i < row.length; i += 5) {
            x.feed(row[i], row[i + 1], row[i + 2], row[i + 3], row[i + 4]);
        }
        return x.text(text.length());
    }

    static LastHouse told(String text) {
        LastHouse x = new LastHouse();
        int lines = tell(x, text);
        if (lines < 0) {
            throw new IllegalStateException("fault " + x.fault(0) + " at " + x.fault(1) + " of " + text);
        }
        return x;
    }

    static int letters(String name) {
        int packed = 0;
        for (int i = 0; i < 6; i++) {
            packed = packed << 5 | (i < name.length() ? name.charAt(i) - 'a' + 1 : 0);
        }
        return packed;
    }

    /** What man() answers, or 1000001 for IndexOutOfBoundsException, 1000002 for NoSuchElementException. */
    static int man(LastHouse x, int man, int what) {
        try {
            return x.man(man, what);
        } catch (IndexOutOfBoundsException e) {
            return 1000001;
        } catch (java.util.NoSuchElementException e) {
            return 1000002;
        }
    }
}
