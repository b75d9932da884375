/** Promises 5, 6 and 10 to 16 at their bounds: each sentence about WAYS, CARRIAGES, JOBS and LAYS that names one. */
public final class BoundsOfJobsTest {
    private static final int NONE = CarriageHire.NONE;
    private static final int NO_LAY = -2;
    private static final int MIN = Integer.MIN_VALUE;
    private static final int MAX = Integer.MAX_VALUE;

    private BoundsOfJobsTest() {
    }

    public static void main(String[] args) {
        promise5Limits();
        promise5EachWayIsItsOwn();
        promise5RefusedDoesNothing();
        promise6Limits();
        promise6RefusedDoesNothing();
        promise10Limits();
        promise10TenAtMost();
        promise10RefusedDoesNothing();
        promise11NoneSuchOrAlready();
        promise11DroppedTakesNoPart();
        promise11RefusedDoesNothing();
        promise12What();
        promise12LeastAndGreatestEnd();
        promise12TeamAndLines();
        promise13AtMost();
        promise13NotBehindItself();
        promise13NoneOrDropped();
        promise14NoJobs();
        promise14NoLay();
        promise14LeastAndGreatest();
        promise14OrderOfBegin();
        promise14AsManyChainsAsCarriages();
        promise14IsOfWhatIsNow();
        promise15OneChainAtLeast();
        promise15TenInOneChain();
        promise16NoneSuch();
        promise16LikeLays();
        promise16NumbersWithoutDroppedOnes();
        Due.finish();
    }

    private static void promise5Limits() {
        Limits.are("5, PLACES are 0 to 7", 0, 7, v -> Limits.asInt(new CarriageHire().way(v, v == 7 ? 6 : 7, 9)), 1, 0);
        Limits.are("5, PLACES are 0 to 7", 0, 7, v -> Limits.asInt(new CarriageHire().way(v == 7 ? 6 : 7, v, 9)), 1, 0);
        Limits.are("5, minutes (0 .. 300)", 0, 300, v -> Limits.asInt(new CarriageHire().way(0, 7, v)), 1, 0);
        for (int place = 0; place < 8; place++) {
            for (int minutes : new int[] {0, 1, 300}) {
                Due.no("5, two different PLACES: " + place, new CarriageHire().way(place, place, minutes));
            }
        }
        CarriageHire x = new CarriageHire();
        x.job(0, 0, 7, 0, 0, 1);
        for (int minutes : new int[] {300, 0, 1, 299}) {
            Due.yes("5, minutes " + minutes, x.way(0, 7, minutes));
            Due.is("5, minutes as given", x.of(0, 0), minutes);
        }
    }

    private static void promise5EachWayIsItsOwn() {
        for (int to = 0; to < 8; to++) {
            CarriageHire x = new CarriageHire();
            int minutes = 1;
            for (int a = 0; a < 8; a++) {
                for (int b = a + 1; b < 8; b++) {
                    x.way(a % 2 == 0 ? a : b, a % 2 == 0 ? b : a, minutes);
                    minutes++;
                }
            }
            for (int from = 0; from < 8; from++) {
                x.job(0, from, to, 0, 0, 1);
                int low = Math.min(from, to);
                int due = from == to ? 0 : low * (15 - low) / 2 + Math.max(from, to) - low;
                Due.is("5, both ways alike, 0 to itself: " + from + " to " + to, x.of(from, 0), due);
            }
        }
    }

    private static void promise5RefusedDoesNothing() {
        int[][] bad = {{0, 0, 9}, {1, 1, 0}, {7, 7, 300}, {-1, 1, 9}, {1, -1, 9}, {8, 1, 9}, {1, 8, 9}, {0, 1, -1},
            {0, 1, 301}, {1, 0, -1}, {1, 0, 301}, {0, 8, 9}, {8, 0, 9}, {-1, 9, 9}, {9, -7, 9}, {0, 9, 9}, {0, 10, 9},
            {MIN, 1, 9}, {1, MAX, 9}, {0, 1, MIN}, {0, 1, MAX}};
        Twins twins = Twins.busy();
        for (int[] b : bad) {
            Due.no("5, likewise: way(" + b[0] + ", " + b[1] + ", " + b[2] + ")", twins.tried.way(b[0], b[1], b[2]));
        }
        twins.areAlike("5, if one can't be");
    }

    private static void promise6Limits() {
        Limits.are("6, CARRIAGES (1 .. 6)", 1, 6, v -> Limits.asInt(new CarriageHire().carriages(v)), 1, 0);
        CarriageHire x = new CarriageHire();
        Due.is("6, 2 at first", x.about(2), 2);
        x.carriages(1);
        Due.is("6, the least", x.about(2), 1);
        x.carriages(6);
        Due.is("6, the most", x.about(2), 6);
    }

    private static void promise6RefusedDoesNothing() {
        Twins twins = Twins.busy();
        for (int n : new int[] {0, 7, -1, -6, 257, 65537, MIN, MAX}) {
            Due.no("6, likewise: " + n, twins.tried.carriages(n));
        }
        twins.areAlike("6, if it can't be");
    }

    private static int job(int kind, int from, int to, int begin, int wait, int horses) {
        return new CarriageHire().job(kind, from, to, begin, wait, horses);
    }

    private static void promise10Limits() {
        Limits.are("10, KIND (0 .. 2)", 0, 2, v -> job(v, 1, 2, 100, 30, 1), 0, NONE);
        Limits.are("10, FROM a PLACE", 0, 7, v -> job(0, v, 2, 100, 30, 1), 0, NONE);
        Limits.are("10, TO a PLACE", 0, 7, v -> job(0, 1, v, 100, 30, 1), 0, NONE);
        Limits.are("10, BEGIN (minute 0 .. 1400)", 0, 1400, v -> job(0, 1, 2, v, 30, 1), 0, NONE);
        Limits.are("10, WAIT (0 .. 300)", 0, 300, v -> job(0, 1, 2, 100, v, 1), 0, NONE);
        Limits.areOnly("10, HORSES needed (1, 2, 4)", new int[] {1, 2, 4}, v -> job(0, 1, 2, 100, 30, v), 0, NONE);
        for (int place = 0; place < 8; place++) {
            Due.is("10, the same PLACE, too", job(0, place, place, 100, 30, 1), 0);
        }
        Due.is("10, all the least", job(0, 0, 0, 0, 0, 1), 0);
        Due.is("10, all the most", job(2, 7, 7, 1400, 300, 4), 0);
    }

    private static void promise10TenAtMost() {
        CarriageHire x = new CarriageHire();
        for (int n = 0; n < 9; n++) {
            Due.is("10, numbered from 0 on", x.job(0, 0, 0, n, 0, 1), n);
        }
        Due.is("10, 10 at most: the 10th", x.job(0, 0, 0, 9, 0, 1), 9);
        Due.is("10, 10 at most: the 11th", x.job(0, 0, 0, 10, 0, 1), NONE);
        Due.is("10, 10 at most: one that can't be", x.job(3, 0, 0, 10, 0, 1), NONE);
        for (int n = 0; n < 10; n++) {
            Due.is("10, 10 at most: END of " + n, x.of(n, 0), n);
            noneBehindTheTenth(x, n);
            Due.yes("11, drop " + n, x.drop(n));
        }
        Due.is("10, a dropped one's number stays", x.job(0, 0, 0, 10, 0, 1), NONE);
        Due.is("10, 10 at most: about(1)", x.about(1), 10);
        Twins full = new Twins(y -> {
            Twins.makeBusy(y);
            for (int n = y.about(1); n < 10; n++) {
                y.job(0, 0, 1, 500 + 50 * n, 0, 1);
            }
        });
        Due.is("10, if there are 10", full.tried.job(0, 2, 2, 0, 300, 1), NONE);
        full.areAlike("10, if there are 10");
    }

    private static void noneBehindTheTenth(CarriageHire x, int other) {
        Due.is("12, none behind the 10th", x.of(10, 0), NONE);
        Due.no("11, none behind the 10th", x.drop(10));
        Due.no("13, none behind the 10th", x.behind(other, 10));
        Due.no("13, none behind the 10th", x.behind(10, other));
        Due.is("16, none behind the 10th", x.chain(10), NONE);
        Due.no("17, none behind the 10th", x.team(10, 0));
        Due.is("18, none behind the 10th", x.right(10), NONE);
        Due.is("19, none behind the 10th", x.strength(10, 0), NONE);
        Due.is("20, none behind the 10th", x.standIn(10, 0), NONE);
        Due.is("25, none behind the 10th", x.price(10, 0), 0);
    }

    private static void promise10RefusedDoesNothing() {
        int[][] bad = {{-1, 1, 2, 3, 4, 1}, {3, 1, 2, 3, 4, 1}, {0, -1, 2, 3, 4, 1}, {0, 8, 2, 3, 4, 1},
            {0, 1, -1, 3, 4, 1}, {0, 1, 8, 3, 4, 1}, {0, 1, 2, -1, 4, 1}, {0, 1, 2, 1401, 4, 1}, {0, 1, 2, 3, -1, 1},
            {0, 1, 2, 3, 301, 1}, {0, 1, 2, 3, 4, 0}, {0, 1, 2, 3, 4, 3}, {0, 1, 2, 3, 4, 5},
            {MIN, MAX, MIN, MAX, MIN, MAX}};
        Twins twins = Twins.busy();
        for (int[] b : bad) {
            Due.is("10, if it can't be", twins.tried.job(b[0], b[1], b[2], b[3], b[4], b[5]), NONE);
        }
        twins.areAlike("10, if it can't be");
    }

    private static void promise11NoneSuchOrAlready() {
        CarriageHire x = new CarriageHire();
        Due.no("11, none such: none at all", x.drop(0));
        for (int n = 0; n < 3; n++) {
            x.job(0, 0, 0, 0, 0, 1);
        }
        for (int job : new int[] {-1, 3, 9, 10, 16, 32, MIN, MAX}) {
            Due.no("11, none such: " + job, x.drop(job));
        }
        Due.yes("11, the first", x.drop(0));
        Due.yes("11, the last", x.drop(2));
        Due.no("11, so already", x.drop(0));
        Due.no("11, so already", x.drop(2));
        Due.is("11, the other one is not", x.of(1, 2), 0);
    }

    private static void promise11DroppedTakesNoPart() {
        CarriageHire x = new CarriageHire();
        x.horse(1, 150, 8, 100);
        x.carriages(1);
        x.way(0, 1, 10);
        x.job(0, 0, 1, 100, 60, 1);
        x.job(0, 1, 1, 120, 100, 1);
        x.job(0, 1, 1, 300, 0, 1);
        for (int n = 0; n < 3; n++) {
            x.team(n, 1);
        }
        Due.is("11, ahead of it: no LAY", x.empty(), NO_LAY);
        Due.is("11, ahead of it: elsewhere", x.right(0), 4);
        Due.is("11, ahead of it: 50 less, then 50 less and 80 more", x.strength(2, 0), 80);
        x.drop(1);
        Due.is("11, no part in a LAY", x.empty(), 10);
        Due.is("11, no part in CHAINS", x.chains(), 1);
        Due.is("11, no part in TEAMS", x.right(0), 0);
        Due.is("11, no part in STRENGTH: 50 less, 130 more", x.strength(2, 0), 180);
        Due.no("11, no part in what may COME BEHIND", x.behind(1, 2));
        Due.is("11, its number stays: the next one", x.job(0, 0, 0, 0, 0, 1), 3);
    }

    private static void promise11RefusedDoesNothing() {
        Twins twins = Twins.busy();
        for (int job : new int[] {-1, 3, 4, 9, 10, 32, 33, -32, MIN, MAX}) {
            Due.no("11, none such, or so already: " + job, twins.tried.drop(job));
        }
        twins.areAlike("11, none such, or so already");
    }

    private static void promise12What() {
        CarriageHire x = new CarriageHire();
        x.job(0, 0, 0, 77, 0, 1);
        int[] due = {77, 0, 0, 0};
        for (int what = 0; what < 4; what++) {
            Due.is("12, what " + what, x.of(0, what), due[what]);
            for (int job : new int[] {-1, 1, 9, 10, 32, MIN, MAX}) {
                Due.is("12, none such: of(" + job + ", " + what + ")", x.of(job, what), NONE);
            }
        }
        for (int what : new int[] {-1, 4, 256, 65536, MIN, MAX}) {
            Due.is("12, another what: " + what, x.of(0, what), NONE);
        }
    }

    private static void promise12LeastAndGreatestEnd() {
        CarriageHire x = new CarriageHire();
        x.way(6, 7, 300);
        x.job(0, 0, 0, 0, 0, 1);
        x.job(0, 6, 7, 1400, 300, 1);
        x.job(0, 7, 7, 1400, 300, 1);
        Due.is("12, the least END", x.of(0, 0), 0);
        Due.is("12, the greatest END", x.of(1, 0), 2000);
        Due.is("12, the same PLACE", x.of(2, 0), 1700);
        x.drop(1);
        Due.is("12, END of a dropped one", x.of(1, 0), 2000);
        Due.is("12, dropped", x.of(1, 2), 1);
        Due.is("12, not dropped", x.of(2, 2), 0);
    }

    private static void promise12TeamAndLines() {
        CarriageHire x = new CarriageHire();
        for (int n = 0; n < 16; n++) {
            x.horse(1, 150, 8, 500);
        }
        x.job(0, 0, 0, 0, 0, 4);
        Due.is("12, 0 without a TEAM", x.of(0, 1), 0);
        x.team(0, 0xf000);
        Due.is("12, the highest HORSES", x.of(0, 1), 0xf000);
        x.team(0, 0);
        Due.is("12, 0 without a TEAM again", x.of(0, 1), 0);
        Due.is("12, no lines", x.of(0, 3), 0);
        Due.prices(x, "price 1;".repeat(10));
        x.job(0, 0, 0, 0, 0, 4);
        Due.is("12, ten lines", x.of(1, 3), 10);
        Due.prices(x, "");
        x.job(0, 0, 0, 0, 0, 4);
        Due.is("12, no lines again", x.of(2, 3), 0);
        Due.is("12, ten lines still", x.of(1, 3), 10);
        Due.is("12, no lines still", x.of(0, 3), 0);
    }

    private static void promise13AtMost() {
        CarriageHire x = new CarriageHire();
        x.way(1, 2, 40);
        x.way(2, 3, 7);
        x.job(0, 1, 2, 100, 60, 1);
        x.job(0, 3, 3, 206, 0, 1);
        x.job(0, 3, 3, 207, 0, 1);
        x.job(0, 3, 3, 208, 0, 1);
        Due.no("13, at most: a minute too soon", x.behind(0, 1));
        Due.yes("13, at most: just then", x.behind(0, 2));
        Due.yes("13, at most: a minute later", x.behind(0, 3));
        CarriageHire y = new CarriageHire();
        for (int from = 1; from < 4; from++) {
            y.way(0, from, 300);
        }
        y.way(1, 2, 300);
        y.way(2, 3, 300);
        y.job(0, 1, 2, 0, 300, 1);
        y.job(0, 3, 0, 900, 0, 1);
        y.job(0, 3, 0, 899, 0, 1);
        y.job(0, 1, 2, 1400, 300, 1);
        Due.yes("13, the longest: at 900", y.behind(0, 1));
        Due.no("13, the longest: at 899", y.behind(0, 2));
        Due.no("13, none behind the last", y.behind(3, 1));
    }

    private static void promise13NotBehindItself() {
        CarriageHire x = new CarriageHire();
        x.job(0, 0, 0, 100, 0, 1);
        x.job(0, 0, 0, 100, 0, 1);
        Due.no("13, a, b different", x.behind(0, 0));
        Due.no("13, a, b different", x.behind(1, 1));
        Due.yes("13, at the same minute", x.behind(0, 1));
        Due.yes("13, the other way", x.behind(1, 0));
    }

    private static void promise13NoneOrDropped() {
        CarriageHire x = new CarriageHire();
        x.job(0, 0, 0, 100, 0, 1);
        x.job(0, 0, 0, 200, 0, 1);
        x.job(0, 0, 0, 300, 0, 1);
        for (int job : new int[] {-1, 3, 9, 10, 32, 33, MIN, MAX}) {
            Due.no("13, one is none: b " + job, x.behind(0, job));
            Due.no("13, one is none: a " + job, x.behind(job, 1));
            Due.no("13, both are none: " + job, x.behind(job, job));
        }
        x.drop(1);
        Due.no("13, b is dropped", x.behind(0, 1));
        Due.no("13, a is dropped", x.behind(1, 2));
        Due.yes("13, neither is", x.behind(0, 2));
    }

    private static void promise14NoJobs() {
        CarriageHire x = new CarriageHire();
        Due.is("14, no JOBS", x.empty(), 0);
        Due.is("15, no JOBS", x.chains(), 0);
        x.way(0, 1, 300);
        x.job(0, 1, 1, 100, 0, 1);
        Due.is("14, one JOB", x.empty(), 600);
        Due.is("15, one JOB", x.chains(), 1);
        x.drop(0);
        Due.is("14, dropped again", x.empty(), 0);
        Due.is("15, dropped again", x.chains(), 0);
        Due.is("16, dropped again", x.chain(0), NONE);
    }

    private static void promise14NoLay() {
        for (int atOnce = 1; atOnce <= 10; atOnce++) {
            CarriageHire x = new CarriageHire();
            for (int n = 0; n < atOnce; n++) {
                x.job(0, 0, 0, 100, 1, 1);
            }
            for (int carriages = 1; carriages <= 6; carriages++) {
                x.carriages(carriages);
                boolean are = atOnce <= carriages;
                String of = atOnce + " at once with " + carriages;
                Due.is("14, -2 if there is no LAY: " + of, x.empty(), are ? 0 : NO_LAY);
                Due.is("15, -2 likewise: " + of, x.chains(), are ? atOnce : NO_LAY);
                for (int n = 0; n < atOnce; n++) {
                    Due.is("16, NONE without: " + of, x.chain(n), are ? n : NONE);
                }
            }
        }
    }

    private static void promise14LeastAndGreatest() {
        CarriageHire x = new CarriageHire();
        for (int a = 0; a < 8; a++) {
            for (int b = a + 1; b < 8; b++) {
                x.way(a, b, 300);
            }
        }
        for (int n = 0; n < 10; n++) {
            x.job(0, 1, 2, n < 6 ? 0 : 600, 0, 1);
        }
        x.carriages(5);
        Due.is("14, six at once with 5", x.empty(), NO_LAY);
        x.carriages(6);
        Due.is("14, six there and back, four in between", x.empty(), 300 * 16);
        Due.is("15, six", x.chains(), 6);
        for (int n = 0; n < 10; n++) {
            Due.is("16, each behind one of the first", x.chain(n), n % 6);
        }
        x.way(1, 2, 299);
        Due.is("14, there they come sooner", x.empty(), 300 * 12 + 4 * 299);
    }

    private static void promise14OrderOfBegin() {
        CarriageHire x = new CarriageHire();
        x.carriages(1);
        x.way(1, 2, 3);
        x.job(0, 1, 1, 100, 0, 1);
        x.job(0, 2, 1, 97, 0, 1);
        Due.is("14, by BEGIN: 1, then 0", x.empty(), 0);
        x.way(0, 1, 5);
        Due.is("14, by BEGIN: from the YARD to 2, from 1 to the YARD", x.empty(), 5);
        CarriageHire y = new CarriageHire();
        y.carriages(1);
        y.job(0, 1, 2, 100, 0, 1);
        y.job(0, 3, 1, 100, 0, 1);
        y.way(2, 3, 1);
        Due.yes("14, of like ones by number: 0 could come behind 1", y.behind(1, 0));
        Due.no("14, of like ones by number: 1 could not behind 0", y.behind(0, 1));
        Due.is("14, of like ones by number", y.empty(), NO_LAY);
        y.carriages(2);
        Due.is("14, of like ones by number: in two", y.empty(), 0);
        Due.is("15, of like ones by number: in two", y.chains(), 2);
        y.way(2, 3, 0);
        y.way(3, 1, 1);
        Due.is("14, 1 takes a minute now, and is the last", y.chains(), 1);
    }

    private static void promise14AsManyChainsAsCarriages() {
        for (int carriages = 1; carriages <= 6; carriages++) {
            CarriageHire x = new CarriageHire();
            x.carriages(carriages);
            for (int place = 1; place < 8; place++) {
                x.way(0, place, 1);
                for (int other = place + 1; other < 8; other++) {
                    x.way(place, other, 100);
                }
                x.job(0, place, place, 200 * (place - 1), 0, 1);
            }
            // Each CHAIN fewer costs 100 - 2 more; all the others are as they are.
            Due.is("14, at most " + carriages, x.empty(), 2 * carriages + 100 * (7 - carriages));
            Due.is("15, at most " + carriages, x.chains(), carriages);
        }
    }

    private static void change(CarriageHire x, int kind) {
        switch (kind) {
            case 0:
                x.way(0, 1, 30);
                break;
            case 1:
                x.carriages(1);
                break;
            case 2:
                x.job(0, 2, 2, 500, 0, 1);
                break;
            case 3:
                x.drop(0);
                break;
            default:
                break;
        }
    }

    /** BEST asked for between two changes, and only behind both, is the same: none of them is overlooked. */
    private static void promise14IsOfWhatIsNow() {
        for (int first = 0; first < 5; first++) {
            for (int second = 0; second < 5; second++) {
                CarriageHire asked = new CarriageHire();
                CarriageHire unasked = new CarriageHire();
                for (CarriageHire x : new CarriageHire[] {asked, unasked}) {
                    x.way(0, 1, 10);
                    x.way(0, 2, 7);
                    x.way(1, 2, 100);
                    x.job(0, 1, 1, 100, 0, 1);
                    x.job(0, 2, 2, 300, 0, 1);
                }
                Due.is("14, at first", asked.empty(), 34);
                change(asked, first);
                change(asked, second);
                change(unasked, first);
                change(unasked, second);
                String of = first + " and " + second;
                Due.is("14, as it is now behind " + of, asked.empty(), unasked.empty());
                Due.is("15, as it is now behind " + of, asked.chains(), unasked.chains());
                Due.is("16, as it is now behind " + of, asked.chain(0), unasked.chain(0));
                Due.is("16, as it is now behind " + of, asked.chain(1), unasked.chain(1));
            }
        }
        CarriageHire x = new CarriageHire();
        x.way(0, 1, 10);
        x.job(0, 1, 1, 100, 0, 1);
        // Place 2 is as near to 1 as to the YARD: by it the way back is saved.
        int[] due = {20, 60, 60, 30, 0};
        for (int kind = -1; kind < 4; kind++) {
            change(x, kind);
            Due.is("14, one change more: " + kind, x.empty(), due[kind + 1]);
        }
    }

    private static void promise15OneChainAtLeast() {
        CarriageHire x = new CarriageHire();
        x.carriages(6);
        x.job(0, 0, 0, 0, 0, 1);
        Due.is("15, one JOB, six CARRIAGES", x.chains(), 1);
        x.job(0, 0, 0, 0, 0, 1);
        Due.is("15, of like LAYS that with one CHAIN", x.chains(), 1);
        x.job(0, 0, 0, 0, 1, 1);
        Due.is("15, by number the third may be last", x.chains(), 1);
        x.job(0, 0, 0, 0, 0, 1);
        Due.is("15, none may come behind it at 0", x.chains(), 2);
    }

    private static void promise15TenInOneChain() {
        CarriageHire x = new CarriageHire();
        x.carriages(1);
        x.way(0, 7, 1);
        for (int n = 0; n < 10; n++) {
            x.job(0, 7, 7, 1400 - n, 1, 1);
        }
        Due.is("14, ten just behind one another", x.empty(), 2);
        Due.is("15, ten just behind one another", x.chains(), 1);
        for (int n = 0; n < 10; n++) {
            Due.is("16, ten just behind one another: " + n, x.chain(n), 0);
        }
        x.way(7, 6, 1);
        Due.is("14, another WAY", x.empty(), 2);
        x.drop(5);
        Due.is("14, nine", x.empty(), 2);
        Due.is("16, the dropped one", x.chain(5), NONE);
        Due.is("16, the next one", x.chain(6), 0);
    }

    private static void promise16NoneSuch() {
        CarriageHire x = new CarriageHire();
        x.job(0, 0, 0, 0, 9, 1);
        x.job(0, 0, 0, 0, 9, 1);
        Due.is("16, the first", x.chain(0), 0);
        Due.is("16, the last", x.chain(1), 1);
        for (int job : new int[] {-1, 2, 9, 10, 11, 32, MIN, MAX}) {
            Due.is("16, none: " + job, x.chain(job), NONE);
        }
        x.carriages(1);
        Due.is("16, NONE without a LAY", x.chain(0), NONE);
        x.drop(1);
        Due.is("16, a LAY again", x.chain(0), 0);
        Due.is("16, dropped", x.chain(1), NONE);
    }

    private static void promise16LikeLays() {
        CarriageHire x = new CarriageHire();
        x.job(0, 0, 0, 100, 10, 1);
        x.job(0, 0, 0, 100, 10, 1);
        int[] rest = {0, 50, 105, 110, 120};
        for (int begin : rest) {
            x.job(0, 0, 0, begin, 5, 1);
        }
        // 4 is at 105 .. 110 in no CHAIN of 0 and 1: three are needed.
        x.carriages(3);
        int[] due = {0, 1, 0, 0, 2, 0, 0};
        for (int n = 0; n < due.length; n++) {
            Due.is("16, the lesser number at the first JOB at which they part: " + n, x.chain(n), due[n]);
        }
        CarriageHire y = new CarriageHire();
        y.way(0, 1, 10);
        y.job(0, 1, 1, 100, 10, 1);
        y.job(0, 0, 0, 100, 10, 1);
        y.job(0, 0, 0, 200, 10, 1);
        y.job(0, 1, 1, 200, 10, 1);
        int[] least = {0, 1, 1, 0};
        for (int n = 0; n < least.length; n++) {
            Due.is("16, the least EMPTY first of all: " + n, y.chain(n), least[n]);
        }
        y.way(0, 1, 0);
        int[] like = {0, 1, 0, 1};
        for (int n = 0; n < like.length; n++) {
            Due.is("16, all alike: " + n, y.chain(n), like[n]);
        }
    }

    private static void promise16NumbersWithoutDroppedOnes() {
        CarriageHire x = new CarriageHire();
        x.carriages(6);
        for (int n = 0; n < 10; n++) {
            x.job(0, 0, 0, 100, 1, 1);
        }
        for (int job : new int[] {0, 3, 4, 8}) {
            x.drop(job);
        }
        int[] due = {NONE, 0, 1, NONE, NONE, 2, 3, 4, NONE, 5};
        for (int n = 0; n < due.length; n++) {
            Due.is("16, those dropped left out: " + n, x.chain(n), due[n]);
        }
    }
}
