import java.util.Random;

/** Promises 14 to 16: BEST, by cases told in full and by trying every LAY. */
public final class LaysTest {
    private static final int NONE = CarriageHire.NONE;
    private static final int MAX = 10;

    private final Random random;
    private final CarriageHire hire = new CarriageHire();
    private final int[][] ways = new int[8][8];
    private final int[][] jobs = new int[MAX][4];
    private final boolean[] dropped = new boolean[MAX];
    private final int[] trial = new int[MAX];
    private int[] best;
    private int bestMinutes;
    private int count;
    private int carriages = 2;

    private LaysTest(int seed) {
        random = new Random(seed);
    }

    public static void main(String[] args) {
        oneChainOrTwo();
        likeLaysByTheirNumbers();
        orderOfLikeBeginsIsByNumber();
        noLay();
        changesAreSeen();
        for (int seed = 0; seed < 120; seed++) {
            new LaysTest(seed).tryAll();
        }
        Due.finish();
    }

    private static void oneChainOrTwo() {
        CarriageHire x = new CarriageHire();
        x.way(0, 1, 10);
        x.way(0, 2, 100);
        x.way(1, 2, 30);
        x.job(0, 1, 1, 100, 0, 1);
        x.job(0, 2, 2, 200, 0, 1);
        Due.is("14: one CHAIN, 10 + 30 + 100", x.empty(), 140);
        Due.is("15: one CHAIN", x.chains(), 1);
        x.way(1, 2, 95);
        Due.is("14: 10 + 95 + 100", x.empty(), 205);
        x.way(0, 2, 20);
        Due.is("14: two CHAINS, 20 + 40", x.empty(), 60);
        Due.is("15: two CHAINS", x.chains(), 2);
        Due.is("16: by the least JOB", x.chain(0), 0);
        Due.is("16: by the least JOB", x.chain(1), 1);
        x.carriages(1);
        Due.is("14: but one CARRIAGE, 10 + 95 + 20", x.empty(), 125);
        Due.is("15: one CHAIN", x.chains(), 1);
        Due.is("16: one CHAIN", x.chain(1), 0);
        Due.is("16: below", x.chain(-1), NONE);
        Due.is("16: beyond", x.chain(2), NONE);
        Due.is("16: far beyond", x.chain(Integer.MAX_VALUE), NONE);
    }

    private static void likeLaysByTheirNumbers() {
        CarriageHire x = new CarriageHire();
        for (int n = 0; n < 10; n++) {
            x.job(0, 0, 0, 100 * (9 - n), 0, 1);
        }
        Due.is("15: of like LAYS that with all in one CHAIN", x.chains(), 1);
        for (int n = 0; n < 10; n++) {
            Due.is("16: chain(" + n + ")", x.chain(n), 0);
        }
        CarriageHire y = new CarriageHire();
        y.job(0, 0, 0, 100, 10, 1);
        y.job(0, 0, 0, 105, 10, 1);
        y.job(0, 0, 0, 50, 10, 1);
        y.job(0, 0, 0, 55, 10, 1);
        // 0 1 0 1 comes ahead of 0 1 1 0.
        int[] due = {0, 1, 0, 1};
        for (int n = 0; n < 4; n++) {
            Due.is("16: chain(" + n + ")", y.chain(n), due[n]);
        }
        y.drop(0);
        // JOB 1 is the least one now.
        int[] then = {NONE, 0, 0, 1};
        for (int n = 0; n < 4; n++) {
            Due.is("16: without 0, chain(" + n + ")", y.chain(n), then[n]);
        }
    }

    private static void orderOfLikeBeginsIsByNumber() {
        CarriageHire x = new CarriageHire();
        x.way(1, 2, 5);
        x.carriages(1);
        x.job(0, 2, 1, 100, 0, 1);
        x.job(0, 0, 2, 95, 0, 1);
        x.way(1, 2, 0);
        x.job(0, 2, 3, 100, 0, 1);
        x.way(1, 3, 7);
        x.way(2, 3, 0);
        Due.yes("13: 2 behind 0", x.behind(0, 2));
        Due.is("14: 1, 0, 2 by BEGIN and number", x.empty(), 0);
        x.way(1, 2, 1);
        Due.no("13: 0 takes a minute", x.behind(0, 2));
        Due.is("14: 0 may not be last", x.empty(), -2);
    }

    private static void noLay() {
        CarriageHire x = new CarriageHire();
        for (int n = 0; n < 7; n++) {
            x.job(0, 0, 0, 100, 10, 1);
        }
        for (int n = 1; n <= 6; n++) {
            x.carriages(n);
            Due.is("14: seven at once", x.empty(), -2);
            Due.is("15: seven at once", x.chains(), -2);
            Due.is("16: seven at once", x.chain(0), NONE);
        }
        x.drop(3);
        Due.is("14: six at once", x.empty(), 0);
        Due.is("15: six at once", x.chains(), 6);
        Due.is("16: the dropped one", x.chain(3), NONE);
        Due.is("16: the last one", x.chain(6), 5);
    }

    private static void changesAreSeen() {
        CarriageHire x = new CarriageHire();
        Due.is("14: none", x.empty(), 0);
        x.job(0, 1, 1, 0, 0, 1);
        Due.is("14: one JOB", x.empty(), 0);
        Due.is("15: one JOB", x.chains(), 1);
        x.way(0, 1, 7);
        Due.is("14: there and back", x.empty(), 14);
        x.job(0, 2, 2, 0, 0, 1);
        x.way(0, 2, 1);
        x.way(1, 2, 1);
        Due.is("14: two", x.empty(), 16);
        x.carriages(1);
        Due.is("14: not in one CHAIN", x.empty(), -2);
        x.drop(0);
        Due.is("14: the other one", x.empty(), 2);
    }

    private void tryAll() {
        int span = 1 + random.nextInt(3) * random.nextInt(40);
        for (int a = 0; a < 8; a++) {
            for (int b = a + 1; b < 8; b++) {
                setWay(a, b, random.nextInt(span));
            }
        }
        int most = 1 + random.nextInt(MAX);
        while (count < most) {
            addJob(random.nextInt(4) == 0 ? 60 : 1400);
        }
        for (int round = 0; round < 4; round++) {
            carriages = 1 + random.nextInt(6);
            hire.carriages(carriages);
            setWay(0, 1 + random.nextInt(7), random.nextInt(span));
            if (round == 3) {
                int job = random.nextInt(count);
                hire.drop(job);
                dropped[job] = true;
            }
            compare();
        }
    }

    private void setWay(int a, int b, int minutes) {
        ways[a][b] = minutes;
        ways[b][a] = minutes;
        hire.way(a, b, minutes);
    }

    private void addJob(int last) {
        int wait = random.nextInt(3) * random.nextInt(60);
        jobs[count] = new int[] {random.nextInt(8), random.nextInt(8), random.nextInt(last), wait};
        hire.job(0, jobs[count][0], jobs[count][1], jobs[count][2], wait, 1);
        count++;
    }

    private void compare() {
        best = null;
        assign(0, 0);
        Due.is("14: empty()", hire.empty(), best == null ? -2 : bestMinutes);
        int chains = -1;
        for (int n = 0; n < count; n++) {
            int due = best == null || dropped[n] ? NONE : best[n];
            chains = Math.max(chains, due);
            Due.is("16: chain(" + n + ")", hire.chain(n), due);
        }
        Due.is("15: chains()", hire.chains(), best == null ? -2 : chains + 1);
    }

    /** Goes through all LAYS in the order in which they are told, so that the first of the least ones is kept. */
    private void assign(int job, int chains) {
        if (job == count) {
            int minutes = 0;
            for (int c = 0; c < chains && minutes >= 0; c++) {
                int own = chainMinutes(c);
                minutes = own < 0 ? -1 : minutes + own;
            }
            if (minutes >= 0 && (best == null || minutes < bestMinutes)) {
                best = trial.clone();
                bestMinutes = minutes;
            }
            return;
        }
        if (dropped[job]) {
            trial[job] = -1;
            assign(job + 1, chains);
            return;
        }
        for (int c = 0; c <= chains && c < carriages; c++) {
            trial[job] = c;
            assign(job + 1, Math.max(chains, c + 1));
        }
    }

    private int chainMinutes(int chain) {
        int at = 0;
        int free = Integer.MIN_VALUE / 2;
        int minutes = 0;
        int done = 0;
        for (int step = 0; step < count; step++) {
            int next = -1;
            for (int n = 0; n < count; n++) {
                if (trial[n] == chain && (done >> n & 1) == 0 && (next < 0 || jobs[n][2] < jobs[next][2])) {
                    next = n;
                }
            }
            if (next < 0) {
                break;
            }
            done |= 1 << next;
            int[] j = jobs[next];
            if (free + ways[at][j[0]] > j[2]) {
                return -1;
            }
            minutes += ways[at][j[0]];
            free = j[2] + ways[j[0]][j[1]] + j[3];
            at = j[1];
        }
        return minutes + ways[at][0];
    }
}
