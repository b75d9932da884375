import java.nio.charset.StandardCharsets;

/** What the tests share: counting answers that are not as due, and putting a text on the TAPE. */
final class Due {
    private static int asked = 0;
    private static int wrong = 0;

    private Due() {
    }

    static void is(String call, long got, long want) {
        asked++;
        if (got != want) {
            wrong++;
            System.out.println(call + " answered " + got + ", due is " + want);
        }
    }

    static void yes(String call, boolean got) {
        is(call, got ? 1 : 0, 1);
    }

    static void no(String call, boolean got) {
        is(call, got ? 1 : 0, 0);
    }

    static void finish() {
        System.out.println(asked + " answers, " + wrong + " not as due");
        if (wrong != 0 || asked == 0) {
            System.exit(1);
        }
    }

    /** Puts a text on the TAPE, twenty bytes a call, cut to its length. */
    static void type(CarriageHire hire, String text) {
        byte[] bytes = text.getBytes(StandardCharsets.ISO_8859_1);
        int before = hire.about(5);
        for (int at = 0; at < bytes.length; at += 20) {
            hire.feed(four(bytes, at), four(bytes, at + 4), four(bytes, at + 8), four(bytes, at + 12),
                    four(bytes, at + 16));
        }
        hire.end(before + bytes.length);
    }

    private static int four(byte[] bytes, int at) {
        int value = 0;
        for (int i = at; i < at + 4; i++) {
            value = value << 8 | (i < bytes.length ? bytes[i] & 255 : 0);
        }
        return value;
    }

    /** Puts a text on the TAPE and reads it. */
    static int prices(CarriageHire hire, String text) {
        type(hire, text);
        return hire.prices();
    }
}
