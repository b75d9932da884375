import java.util.Random;

/** Promises 26 to 29: THE BOOK of breaks, in both its times. */
public final class BookTest {
    private static final int NONE = CarriageHire.NONE;

    private BookTest() {
    }

    public static void main(String[] args) {
        brokenTakesItsLimits();
        brokenRefusesWhatCannotBe();
        fortyEntriesAtMost();
        untellOnceAndNotBefore();
        untellRefusesWhatCannotBe();
        wholeByBothTimes();
        wholeTakesAnyMinute();
        freeAtTheEdges();
        freeRefusesWhatCannotBe();
        freeGoesOnBehindEachBreak();
        for (int seed = 0; seed < 60; seed++) {
            minuteByMinute(new Random(seed));
        }
        Due.finish();
    }

    private static void brokenTakesItsLimits() {
        CarriageHire x = new CarriageHire();
        Due.is("26: least of all", x.broken(0, 0, 1, 0), 0);
        Due.is("26: most of all", x.broken(5, 2000, 3000, 5000), 1);
        Due.is("26: about(4)", x.about(4), 2);
        Due.is("28: least", x.whole(0, 0, 0), 0);
        Due.is("28: most", x.whole(5, 2999, 5000), 0);
        x.carriages(1);
        Due.is("26: whatever CARRIAGES are", x.broken(5, 1, 2, 3), 2);
    }

    private static void brokenRefusesWhatCannotBe() {
        CarriageHire x = new CarriageHire();
        int[][] bad = {{-1, 1, 2, 3}, {6, 1, 2, 3}, {0, -1, 2, 3}, {0, 2001, 2002, 3}, {0, 5, 5, 3}, {0, 5, 4, 3},
            {0, 1, 3001, 3}, {0, 1, 2, -1}, {0, 1, 2, 5001}, {0, 1, Integer.MAX_VALUE, 3}, {Integer.MIN_VALUE, 1, 2, 3},
            {0, Integer.MIN_VALUE, 2, 3}, {0, 1, Integer.MIN_VALUE, 3}, {0, 1, 2, Integer.MAX_VALUE}};
        for (int[] b : bad) {
            Due.is("26: what can't be", x.broken(b[0], b[1], b[2], b[3]), NONE);
        }
        Due.is("26: nothing done", x.about(4), 0);
    }

    private static void fortyEntriesAtMost() {
        CarriageHire x = new CarriageHire();
        for (int n = 0; n < 40; n++) {
            Due.is("26: number", x.broken(n % 6, n, n + 1, n), n);
        }
        Due.is("26: the 41st", x.broken(0, 1, 2, 3), NONE);
        Due.is("26: about(4)", x.about(4), 40);
        Due.yes("27: the last one", x.untell(39, 39));
        Due.no("27: none behind it", x.untell(40, 50));
        Due.is("26: UNTOLD ones stay", x.broken(0, 1, 2, 3), NONE);
    }

    private static void untellOnceAndNotBefore() {
        CarriageHire x = new CarriageHire();
        x.broken(0, 10, 20, 7);
        x.broken(0, 10, 20, 5000);
        Due.no("27: before it was TOLD", x.untell(0, 6));
        Due.is("27: nothing done", x.whole(0, 10, 7), 0);
        Due.yes("27: as it was TOLD", x.untell(0, 7));
        Due.is("28: never known", x.whole(0, 10, 7), 1);
        Due.no("27: once", x.untell(0, 8));
        Due.no("27: once", x.untell(0, 7));
        Due.yes("27: 5000", x.untell(1, 5000));
    }

    private static void untellRefusesWhatCannotBe() {
        CarriageHire x = new CarriageHire();
        x.broken(0, 10, 20, 0);
        int[][] bad = {{0, -1}, {0, 5001}, {1, 5}, {-1, 5}, {40, 5}, {Integer.MAX_VALUE, 5}, {Integer.MIN_VALUE, 5},
            {0, Integer.MAX_VALUE}, {0, Integer.MIN_VALUE}};
        for (int[] b : bad) {
            Due.no("27: untell(" + b[0] + ", " + b[1] + ")", x.untell(b[0], b[1]));
        }
        Due.is("27: nothing done", x.whole(0, 10, 5000), 0);
        Due.yes("27: at 0", x.untell(0, 0));
    }

    private static void wholeByBothTimes() {
        CarriageHire x = new CarriageHire();
        x.broken(2, 100, 200, 50);
        x.broken(2, 150, 160, 60);
        x.untell(0, 70);
        int[][] due = {{99, 50, 1}, {100, 49, 1}, {100, 50, 0}, {199, 69, 0}, {200, 69, 1}, {100, 70, 1}, {150, 70, 0},
            {149, 70, 1}, {159, 1000, 0}, {160, 1000, 1}, {150, 59, 0}, {150, 49, 1}};
        for (int[] d : due) {
            Due.is("28: whole(2, " + d[0] + ", " + d[1] + ")", x.whole(2, d[0], d[1]), d[2]);
        }
        Due.is("28: another CARRIAGE", x.whole(1, 150, 60), 1);
        Due.is("28: none such", x.whole(6, 150, 60), NONE);
        Due.is("28: none such", x.whole(-1, 150, 60), NONE);
        Due.is("28: none such", x.whole(Integer.MIN_VALUE, 150, 60), NONE);
    }

    private static void wholeTakesAnyMinute() {
        CarriageHire x = new CarriageHire();
        x.broken(0, 0, 3000, 0);
        Due.is("28: before the day", x.whole(0, -1, 10), 1);
        Due.is("28: behind the day", x.whole(0, 3000, 10), 1);
        Due.is("28: far before", x.whole(0, Integer.MIN_VALUE, 10), 1);
        Due.is("28: far behind", x.whole(0, Integer.MAX_VALUE, 10), 1);
        Due.is("28: known before all", x.whole(0, 5, -1), 1);
        Due.is("28: known before all", x.whole(0, 5, Integer.MIN_VALUE), 1);
        Due.is("28: known behind all", x.whole(0, 5, Integer.MAX_VALUE), 0);
        Due.is("29: known behind all", x.free(0, 5, 1, Integer.MAX_VALUE), 3000);
        Due.is("29: known before all", x.free(0, 5, 1, Integer.MIN_VALUE), 5);
    }

    private static void freeAtTheEdges() {
        CarriageHire x = new CarriageHire();
        x.broken(0, 500, 600, 0);
        Due.is("29: up to the break", x.free(0, 0, 500, 0), 0);
        Due.is("29: a minute short", x.free(0, 1, 500, 0), 600);
        Due.is("29: one minute", x.free(0, 499, 1, 0), 499);
        Due.is("29: one minute", x.free(0, 500, 1, 0), 600);
        Due.is("29: at its end", x.free(0, 600, 1, 0), 600);
        Due.is("29: the last minute", x.free(0, 3000, 1, 0), 3000);
        Due.is("29: beyond the day", x.free(0, 3000, 500, 0), 3000);
        x.broken(0, 2000, 3000, 0);
        Due.is("29: to 3000", x.free(0, 1501, 500, 0), 3000);
        Due.is("29: just there", x.free(0, 1500, 500, 0), 1500);
    }

    private static void freeRefusesWhatCannotBe() {
        CarriageHire x = new CarriageHire();
        int[][] bad = {{-1, 0, 1, 0}, {6, 0, 1, 0}, {0, -1, 1, 0}, {0, 3001, 1, 0}, {0, 0, 0, 0}, {0, 0, 501, 0},
            {0, 0, -1, 0}, {0, Integer.MAX_VALUE, 1, 0}, {0, 0, Integer.MAX_VALUE, 0}, {Integer.MIN_VALUE, 0, 1, 0}};
        for (int[] b : bad) {
            Due.is("29: what can't be", x.free(b[0], b[1], b[2], b[3]), NONE);
        }
        Due.is("29: any k", x.free(0, 7, 1, -5), 7);
    }

    private static void freeGoesOnBehindEachBreak() {
        CarriageHire x = new CarriageHire();
        for (int n = 39; n >= 0; n--) {
            x.broken(3, 20 * n, 20 * n + 11, 0);
        }
        Due.is("29: told from the last to the first", x.free(3, 0, 10, 0), 791);
        Due.is("29: 9 fit in between", x.free(3, 0, 9, 0), 11);
    }

    private static void minuteByMinute(Random random) {
        CarriageHire x = new CarriageHire();
        int[][] entries = new int[random.nextInt(41)][];
        for (int n = 0; n < entries.length; n++) {
            int from = random.nextInt(2001);
            int to = from + 1 + random.nextInt(1 + random.nextInt(200));
            entries[n] = new int[] {random.nextInt(3), from, to, random.nextInt(100), Integer.MAX_VALUE};
            Due.is("26: number", x.broken(entries[n][0], from, to, entries[n][3]), n);
            if (random.nextInt(3) == 0) {
                entries[n][4] = entries[n][3] + random.nextInt(60);
                Due.yes("27: later", x.untell(n, entries[n][4]));
            }
        }
        for (int n = 0; n < 200; n++) {
            int carriage = random.nextInt(3);
            int m = random.nextInt(3001);
            int k = random.nextInt(160);
            int length = 1 + random.nextInt(500);
            Due.is("28: whole", x.whole(carriage, m, k), isWhole(entries, carriage, m, k) ? 1 : 0);
            int due = m;
            for (int at = m; at < due + length; at++) {
                due = isWhole(entries, carriage, at, k) ? due : at + 1;
            }
            Due.is("29: free", x.free(carriage, m, length, k), due);
        }
    }

    private static boolean isWhole(int[][] entries, int carriage, int m, int k) {
        for (int[] e : entries) {
            if (e[0] == carriage && e[1] <= m && m < e[2] && e[3] <= k && e[4] > k) {
                return false;
            }
        }
        return true;
    }
}
