/** Promises 5, 6, 7 and 10 to 13: WAYS, CARRIAGES, NEED, JOBS, and what may COME BEHIND. */
public final class DayTest {
    private static final int NONE = CarriageHire.NONE;

    private DayTest() {
    }

    public static void main(String[] args) {
        wayIsAlikeBothWays();
        wayRefusesWhatCannotBe();
        carriagesTakeTheirLimits();
        needTakesItsLimits();
        jobTakesItsLimits();
        jobRefusesWhatCannotBe();
        tenJobsAtMost();
        dropOnce();
        ofTellsWhatIs();
        behindAtTheEdge();
        behindOfNoneOrDropped();
        Due.finish();
    }

    private static void wayIsAlikeBothWays() {
        CarriageHire x = new CarriageHire();
        x.job(0, 2, 7, 0, 0, 1);
        x.job(0, 7, 2, 0, 0, 1);
        x.job(0, 7, 7, 0, 0, 1);
        x.job(0, 0, 7, 0, 0, 1);
        Due.yes("5: 300", x.way(7, 2, 300));
        Due.is("5: there", x.of(0, 0), 300);
        Due.is("5: back", x.of(1, 0), 300);
        Due.is("5: to itself", x.of(2, 0), 0);
        Due.is("5: another one", x.of(3, 0), 0);
        Due.yes("5: 1", x.way(2, 7, 1));
        Due.is("5: again, there", x.of(0, 0), 1);
        Due.is("5: again, back", x.of(1, 0), 1);
        Due.yes("5: 0", x.way(2, 7, 0));
        Due.is("5: 0", x.of(1, 0), 0);
    }

    private static void wayRefusesWhatCannotBe() {
        CarriageHire x = new CarriageHire();
        x.job(0, 3, 4, 0, 0, 1);
        x.job(0, 3, 3, 0, 0, 1);
        x.way(3, 4, 17);
        int[][] bad = {{3, 3, 1}, {0, 0, 0}, {3, 4, -1}, {3, 4, 301}, {-1, 4, 1}, {3, -1, 1}, {8, 4, 1}, {3, 8, 1},
            {3, 4, Integer.MIN_VALUE}, {Integer.MAX_VALUE, 4, 1}, {3, Integer.MIN_VALUE, 1}};
        for (int[] b : bad) {
            Due.no("5: way(" + b[0] + ", " + b[1] + ", " + b[2] + ")", x.way(b[0], b[1], b[2]));
        }
        Due.is("5: nothing done", x.of(0, 0), 17);
        Due.is("5: nothing done to itself", x.of(1, 0), 0);
    }

    private static void carriagesTakeTheirLimits() {
        CarriageHire x = new CarriageHire();
        Due.is("6: 2 at first", x.about(2), 2);
        for (int n = 1; n <= 6; n++) {
            Due.yes("6: carriages(" + n + ")", x.carriages(n));
            Due.is("6: about(2)", x.about(2), n);
        }
        for (int n : new int[] {0, -1, 7, Integer.MAX_VALUE, Integer.MIN_VALUE}) {
            Due.no("6: carriages(" + n + ")", x.carriages(n));
            Due.is("6: nothing done", x.about(2), 6);
        }
    }

    private static void needTakesItsLimits() {
        CarriageHire x = new CarriageHire();
        x.horse(1, 150, 5, 0);
        x.horse(1, 150, 5, 499);
        x.horse(1, 150, 5, 500);
        for (int n = 0; n < 3; n++) {
            x.job(0, 0, 0, 0, 0, 1);
            x.team(n, 1 << n);
        }
        Due.is("7: 0 at first", x.right(0), 0);
        Due.yes("7: most", x.need(500));
        Due.is("7: 0 is less", x.right(0), 5);
        Due.is("7: 499 is less", x.right(1), 5);
        Due.is("7: 500 is not", x.right(2), 0);
        Due.no("7: too much", x.need(501));
        Due.no("7: below 0", x.need(-1));
        Due.no("7: far below 0", x.need(Integer.MIN_VALUE));
        Due.is("7: nothing done", x.right(1), 5);
        Due.yes("7: least", x.need(0));
        Due.is("7: none is needed", x.right(0), 0);
    }

    private static void jobTakesItsLimits() {
        CarriageHire x = new CarriageHire();
        Due.is("10: least of all", x.job(0, 0, 0, 0, 0, 1), 0);
        Due.is("10: most of all", x.job(2, 7, 7, 1400, 300, 4), 1);
        Due.is("10: in between", x.job(1, 0, 7, 1, 1, 2), 2);
        Due.is("10: END", x.of(0, 0), 0);
        Due.is("10: END", x.of(1, 0), 1700);
        Due.is("10: about(1)", x.about(1), 3);
    }

    private static void jobRefusesWhatCannotBe() {
        CarriageHire x = new CarriageHire();
        int[][] bad = {{-1, 1, 2, 3, 4, 1}, {3, 1, 2, 3, 4, 1}, {0, -1, 2, 3, 4, 1}, {0, 8, 2, 3, 4, 1},
            {0, 1, -1, 3, 4, 1}, {0, 1, 8, 3, 4, 1}, {0, 1, 2, -1, 4, 1}, {0, 1, 2, 1401, 4, 1}, {0, 1, 2, 3, -1, 1},
            {0, 1, 2, 3, 301, 1}, {0, 1, 2, 3, 4, 0}, {0, 1, 2, 3, 4, 3}, {0, 1, 2, 3, 4, 5}, {0, 1, 2, 3, 4, -1},
            {0, 1, 2, 3, 4, 8}, {Integer.MAX_VALUE, 1, 2, 3, 4, 1}, {0, Integer.MIN_VALUE, 2, 3, 4, 1}};
        for (int[] b : bad) {
            Due.is("10: what can't be", x.job(b[0], b[1], b[2], b[3], b[4], b[5]), NONE);
        }
        Due.is("10: nothing done", x.about(1), 0);
        Due.is("10: the first one", x.job(0, 1, 2, 3, 4, 1), 0);
    }

    private static void tenJobsAtMost() {
        CarriageHire x = new CarriageHire();
        for (int n = 0; n < 10; n++) {
            Due.is("10: number", x.job(0, 0, 0, n, 0, 1), n);
        }
        Due.is("10: the 11th", x.job(0, 0, 0, 0, 0, 1), NONE);
        Due.yes("11: drop", x.drop(4));
        Due.is("11: its number stays", x.job(0, 0, 0, 0, 0, 1), NONE);
        Due.is("10: about(1)", x.about(1), 10);
    }

    private static void dropOnce() {
        CarriageHire x = new CarriageHire();
        Due.no("11: none yet", x.drop(0));
        x.job(0, 0, 0, 0, 0, 1);
        x.job(0, 0, 0, 0, 0, 1);
        Due.no("11: below", x.drop(-1));
        Due.no("11: beyond", x.drop(2));
        Due.no("11: far below", x.drop(Integer.MIN_VALUE));
        Due.yes("11: once", x.drop(1));
        Due.no("11: twice", x.drop(1));
        Due.is("11: the other one is not", x.of(0, 2), 0);
        Due.yes("11: the other one", x.drop(0));
        Due.is("14: no JOBS are left", x.empty(), 0);
        Due.is("15: no JOBS are left", x.chains(), 0);
    }

    private static void ofTellsWhatIs() {
        CarriageHire x = new CarriageHire();
        x.horse(1, 150, 5, 5);
        x.horse(1, 150, 5, 5);
        Due.prices(x, "price 1; price 2;");
        x.way(1, 2, 20);
        x.job(2, 1, 2, 100, 31, 2);
        Due.is("12: END", x.of(0, 0), 151);
        Due.is("12: no TEAM", x.of(0, 1), 0);
        x.team(0, 3);
        Due.is("12: TEAM", x.of(0, 1), 3);
        Due.is("12: not dropped", x.of(0, 2), 0);
        Due.is("12: lines", x.of(0, 3), 2);
        Due.prices(x, "price 1;");
        Due.is("12: lines of then", x.of(0, 3), 2);
        x.job(2, 1, 2, 100, 31, 2);
        Due.is("12: lines of the other", x.of(1, 3), 1);
        x.drop(0);
        x.way(1, 2, 21);
        Due.is("12: END by the WAY that is now", x.of(0, 0), 152);
        Due.is("12: TEAM of a dropped one", x.of(0, 1), 3);
        Due.is("12: dropped", x.of(0, 2), 1);
        Due.is("12: lines of a dropped one", x.of(0, 3), 2);
        int[][] bad = {{0, -1}, {0, 4}, {0, Integer.MAX_VALUE}, {-1, 0}, {2, 0}, {10, 0}, {Integer.MIN_VALUE, 0}};
        for (int[] b : bad) {
            Due.is("12: of(" + b[0] + ", " + b[1] + ")", x.of(b[0], b[1]), NONE);
        }
    }

    private static void behindAtTheEdge() {
        CarriageHire x = new CarriageHire();
        x.way(1, 2, 20);
        x.way(2, 3, 5);
        x.job(0, 1, 2, 100, 30, 1);
        x.job(0, 3, 1, 155, 0, 1);
        x.job(0, 3, 1, 154, 0, 1);
        x.job(0, 2, 2, 150, 0, 1);
        x.job(0, 2, 2, 150, 0, 1);
        Due.yes("13: 100 + 20 + 30 + 5 is 155", x.behind(0, 1));
        Due.no("13: not back", x.behind(1, 0));
        Due.no("13: 154 is a minute short", x.behind(0, 2));
        Due.yes("13: at its place at once", x.behind(0, 3));
        Due.yes("13: like ones that take no time", x.behind(3, 4));
        Due.yes("13: the other way, too", x.behind(4, 3));
        Due.no("13: not behind itself", x.behind(3, 3));
        x.way(2, 3, 4);
        Due.yes("13: the WAY is shorter now", x.behind(0, 2));
        x.way(1, 2, 22);
        Due.no("13: the JOB is longer now", x.behind(0, 1));
    }

    private static void behindOfNoneOrDropped() {
        CarriageHire x = new CarriageHire();
        x.job(0, 0, 0, 0, 0, 1);
        x.job(0, 0, 0, 10, 0, 1);
        Due.yes("13: as yet", x.behind(0, 1));
        int[][] bad = {{0, 2}, {2, 0}, {-1, 1}, {0, -1}, {Integer.MIN_VALUE, 1}, {0, Integer.MAX_VALUE}, {-1, -1}};
        for (int[] b : bad) {
            Due.no("13: behind(" + b[0] + ", " + b[1] + ")", x.behind(b[0], b[1]));
        }
        x.drop(1);
        Due.no("13: dropped", x.behind(0, 1));
        Due.no("13: dropped", x.behind(1, 0));
    }
}
