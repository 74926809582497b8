import java.nio.charset.StandardCharsets;

/** Counts what is due and what is not; the tests share it. */
final class Check {
    static final int BEYOND = -1000001;
    static final int FULL = -1000002;
    static final int KIND = -1000003;
    static final int NONE = -1000004;
    static final int STATE = -1000005;
    static final int MISSING = -1000006;
    static final int SIZE = -1000007;

    private static int right = 0;
    private static int wrong = 0;

    private Check() {
    }

    static void due(String what, long got, long want) {
        if (got == want) {
            right++;
            return;
        }
        wrong++;
        System.out.println(what + ": answered " + got + ", due is " + want);
    }

    static int right() {
        return right;
    }

    static int wrong() {
        return wrong;
    }

    /** Puts a text on the tape, four bytes a call: an object has 512 calls alone. */
    static void feed(WordSupper x, String text) {
        byte[] bytes = text.getBytes(StandardCharsets.ISO_8859_1);
        for (int begin = 0; begin < bytes.length; begin += 4) {
            int n = Math.min(4, bytes.length - begin);
            int packed = 0;
            for (int i = 0; i < n; i++) {
                packed = packed << 8 | bytes[begin + i] & 255;
            }
            x.feed(packed, n);
        }
    }

    /** What text() answers to a text. */
    static int read(WordSupper x, String text) {
        feed(x, text);
        return x.text();
    }

    /** A new table that a text tells. */
    static WordSupper told(String text) {
        WordSupper x = new WordSupper();
        if (read(x, text) < 0) {
            due("the text of a test: " + text, -1, 0);
        }
        return x;
    }

    /** A sheet of 32 bits with these numbers. */
    static void lay(WordSupper x, int s, int... numbers) {
        x.sheet(s, 32, numbers.length);
        for (int i = 0; i < numbers.length; i++) {
            x.write(s, i, numbers[i]);
        }
    }

    /** All that can be seen of an object but status(), to see that nothing changed. */
    static String seen(WordSupper x) {
        StringBuilder all = new StringBuilder();
        for (int what = 0; what <= 7; what++) {
            all.append(x.count(what)).append(' ');
        }
        for (int taste = 0; taste < 6; taste++) {
            all.append(x.listed(taste)).append(' ');
        }
        int vinegar = x.vinegar(0);
        x.vinegar(vinegar);
        all.append(vinegar).append(' ');
        for (int speaker = 0; speaker < x.count(1); speaker++) {
            for (int what = 0; what <= 3; what++) {
                all.append(x.of(speaker, what)).append(' ');
            }
            for (int taste = 0; taste < 6; taste++) {
                all.append(x.plate(speaker, taste)).append(' ');
            }
        }
        for (int spot = 0; spot < 10; spot++) {
            all.append(x.as(spot, 0)).append(' ');
        }
        return all.toString();
    }
}
