import java.nio.charset.StandardCharsets;

/** What all tests use: counts the answers that are not as due, and puts texts on tapes. */
final class Check {
    private final String test;
    private int wrong = 0;
    private int calls = 0;

    Check(String test) {
        this.test = test;
    }

    void due(String call, long got, long want) {
        calls++;
        if (got != want) {
            wrong++;
            System.out.println(test + ": " + call + " answered " + got + ", due is " + want);
        }
    }

    void due(String call, boolean got, boolean want) {
        due(call, got ? 1 : 0, want ? 1 : 0);
    }

    int wrong() {
        return wrong;
    }

    void end() {
        System.out.println(wrong == 0 ? calls + " answers are as due" : wrong + " answers are not as due");
        if (wrong != 0) {
            System.exit(1);
        }
    }

    /** Puts a text behind an object's tape: whole feeds, then what is too much goes. */
    static void put(WellVillages x, String text) {
        byte[] bytes = text.getBytes(StandardCharsets.ISO_8859_1);
        int feeds = (bytes.length + 19) / 20;
        for (int i = 0; i < feeds; i++) {
            x.feed(word(bytes, 20 * i), word(bytes, 20 * i + 4), word(bytes, 20 * i + 8),
                word(bytes, 20 * i + 12), word(bytes, 20 * i + 16));
        }
        x.back(feeds * 20 - bytes.length);
    }

    static int word(byte[] bytes, int from) {
        int word = 0;
        for (int i = from; i < from + 4; i++) {
            word = word << 8 | (i < bytes.length ? bytes[i] & 255 : ' ');
        }
        return word;
    }

    /** A new object that has read a text, which must have no fault. */
    static WellVillages over(String text) {
        WellVillages x = new WellVillages();
        put(x, text);
        if (x.read() != 0) {
            throw new IllegalStateException("a fault at " + x.place() + " of: " + text);
        }
        return x;
    }
}
