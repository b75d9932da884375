import java.util.function.IntUnaryOperator;

/** The limits of one value of a call: the last ones that are taken, and the first ones that are refused. */
final class Limits {
    private Limits() {
    }

    /** The call is made with each value, on an object of its own, and must answer what is due within and without. */
    static void are(String sentence, int least, int most, IntUnaryOperator call, int taken, int refused) {
        for (int value : new int[] {least, least + (most - least) / 2, most}) {
            Due.is(sentence + ": " + value + " is taken", call.applyAsInt(value), taken);
        }
        int[] without = {least - 1, most + 1, Integer.MIN_VALUE, Integer.MAX_VALUE};
        for (int value : without) {
            Due.is(sentence + ": " + value + " is refused", call.applyAsInt(value), refused);
        }
        // These would pass for one within, if but some of their bits were looked at.
        int[] wrapped = {least + 256, most - 256, least + 65536, most - 65536, most | 1 << 30, least | 1 << 31};
        for (int value : wrapped) {
            if (value < least || value > most) {
                Due.is(sentence + ": " + value + " is refused", call.applyAsInt(value), refused);
            }
        }
    }

    /** Likewise for a value of which but some can be. */
    static void areOnly(String sentence, int[] good, IntUnaryOperator call, int taken, int refused) {
        for (int value = -20; value <= 40; value++) {
            Due.is(sentence + ": " + value, call.applyAsInt(value), has(good, value) ? taken : refused);
        }
        for (int value : new int[] {good[0] + 256, good[0] + 65536, good[0] | 1 << 31, 1 << 30, Integer.MAX_VALUE}) {
            Due.is(sentence + ": " + value, call.applyAsInt(value), refused);
        }
    }

    static int asInt(boolean answer) {
        return answer ? 1 : 0;
    }

    private static boolean has(int[] good, int value) {
        for (int one : good) {
            if (one == value) {
                return true;
            }
        }
        return false;
    }
}
