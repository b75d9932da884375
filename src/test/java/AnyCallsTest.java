import java.util.Arrays;
import java.util.Random;

/**
 * All promises: calls of any kind with any arguments, 512 on each object. None may throw; the same calls must give the
 * same answers; and a call that only asks, or that is refused, must leave all answers as they were.
 */
public final class AnyCallsTest {
    private static final int CALLS = 512;
    private static final int KINDS = 29;
    private static final int[] EDGES = {-1, 0, 1, 2, 3, 4, 5, 6, 7, 8, 9, 10, 15, 16, 20, 39, 40, 50, 51, 99, 100, 101, 149,
        150, 151, 200, 201, 299, 300, 301, 500, 501, 600, 1000, 1001, 1400, 1401, 2000, 2001, 3000, 3001, 5000, 5001, 65535,
        65536, Integer.MAX_VALUE, Integer.MIN_VALUE, Integer.MAX_VALUE - 1, Integer.MIN_VALUE + 1};

    private AnyCallsTest() {
    }

    public static void main(String[] args) {
        for (int seed = 0; seed < 300; seed++) {
            sameCallsSameAnswers(seed);
        }
        for (int seed = 0; seed < 40; seed++) {
            refusedCallsDoNothing(seed);
        }
        Due.finish();
    }

    private static int[] drawCall(Random random) {
        int[] call = new int[7];
        call[0] = random.nextInt(KINDS);
        boolean tame = random.nextInt(3) != 0;
        for (int n = 1; n < call.length; n++) {
            call[n] = tame ? random.nextInt(random.nextBoolean() ? 8 : 200) : EDGES[random.nextInt(EDGES.length)];
        }
        if (tame && call[0] == 0) {
            call[2] = 140 + random.nextInt(10);
            call[3] = 5 + random.nextInt(5);
        }
        if (tame && call[0] == 8) {
            call[1] = random.nextInt(3);
            call[2] = random.nextInt(8);
            call[3] = random.nextInt(8);
            call[4] = random.nextInt(1401);
            call[6] = 1 << random.nextInt(3);
        }
        return call;
    }

    private static long answer(CarriageHire x, int[] c) {
        switch (c[0]) {
            case 0: return x.horse(c[1], c[2], c[3], c[4]);
            case 1: return x.lame(c[1], (c[2] & 1) == 1) ? 1 : 0;
            case 2: return x.spans(c[1], c[2]) ? 1 : 0;
            case 3: return x.way(c[1], c[2], c[3]) ? 1 : 0;
            case 4: return x.carriages(c[1]) ? 1 : 0;
            case 5: return x.need(c[1]) ? 1 : 0;
            case 6: return x.match(c[1]) ? 1 : 0;
            case 7: return x.matches(c[1]);
            case 8: return x.job(c[1], c[2], c[3], c[4], c[5], c[6]);
            case 9: return x.drop(c[1]) ? 1 : 0;
            case 10: return x.of(c[1], c[2]);
            case 11: return x.behind(c[1], c[2]) ? 1 : 0;
            case 12: return x.empty();
            case 13: return x.chains();
            case 14: return x.chain(c[1]);
            case 15: return x.team(c[1], c[2]) ? 1 : 0;
            case 16: return x.right(c[1]);
            case 17: return x.strength(c[1], c[2]);
            case 18: return x.standIn(c[1], c[2]);
            case 19: return x.feed(c[1], c[2], c[3], c[4], c[5]);
            case 20: return x.end(c[1]);
            case 21: return x.prices();
            case 22: return x.fault(c[1]);
            case 23: return x.price(c[1], c[2]);
            case 24: return x.broken(c[1], c[2], c[3], c[4]);
            case 25: return x.untell(c[1], c[2]) ? 1 : 0;
            case 26: return x.whole(c[1], c[2], c[3]);
            case 27: return x.free(c[1], c[2], c[3], c[4]);
            default: return x.about(c[1]);
        }
    }

    private static boolean onlyAsks(int[] call) {
        int k = call[0];
        return k == 6 || k == 7 || k >= 10 && k <= 14 || k >= 16 && k <= 18 || k == 22 || k == 23 || k >= 26;
    }

    private static boolean isRefused(int[] call, long answer) {
        switch (call[0]) {
            case 0: case 8: case 19: case 20: case 24:
                return answer == CarriageHire.NONE;
            case 1: case 2: case 3: case 4: case 5: case 9: case 15: case 25:
                return answer == 0;
            default:
                return false;
        }
    }

    private static void sameCallsSameAnswers(int seed) {
        Random random = new Random(seed);
        CarriageHire x = new CarriageHire();
        CarriageHire y = new CarriageHire();
        for (int n = 0; n < CALLS; n++) {
            int[] call = drawCall(random);
            Due.is(Arrays.toString(call), answer(x, call), answer(y, call));
        }
    }

    /** What can be asked for is asked on objects that have had all calls, or those alone that change something. */
    private static void refusedCallsDoNothing(int seed) {
        Random random = new Random(seed);
        CarriageHire x = new CarriageHire();
        int[][] kept = new int[CALLS][];
        int count = 0;
        for (int n = 0; n < 200; n++) {
            int[] call = drawCall(random);
            long answer = answer(x, call);
            if (!onlyAsks(call) && !isRefused(call, answer)) {
                kept[count] = call;
                count++;
            }
        }
        CarriageHire y = new CarriageHire();
        for (int n = 0; n < count; n++) {
            answer(y, kept[n]);
        }
        for (int n = 0; n < 300; n++) {
            int[] call = drawCall(random);
            if (onlyAsks(call)) {
                Due.is(Arrays.toString(call), answer(x, call), answer(y, call));
            }
        }
    }
}
