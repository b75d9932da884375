/** Promises 26 to 30 at their bounds: each sentence about THE BOOK and about() that names one. */
public final class BoundsOfBookTest {
    private static final int NONE = CarriageHire.NONE;
    private static final int MIN = Integer.MIN_VALUE;
    private static final int MAX = Integer.MAX_VALUE;

    private BoundsOfBookTest() {
    }

    public static void main(String[] args) {
        promise26Limits();
        promise26FortyAtMost();
        promise26RefusedDoesNothing();
        promise27Limits();
        promise27NoneSuchOrAlready();
        promise27RefusedDoesNothing();
        promise28NoneSuch();
        promise28FromUpTo();
        promise28AsKnown();
        promise28ManyEntries();
        promise28AnyMinute();
        promise29Limits();
        promise29To3000();
        promise29ForSoManyMinutes();
        promise29AsKnown();
        promise29FullBook();
        promise30What();
        promise30EmptyAndFull();
        Due.finish();
    }

    private static int broken(int carriage, int from, int to, int told) {
        return new CarriageHire().broken(carriage, from, to, told);
    }

    private static void promise26Limits() {
        Limits.are("26, a CARRIAGE (0 .. 5)", 0, 5, v -> broken(v, 10, 20, 30), 0, NONE);
        Limits.are("26, from a minute (0 .. 2000)", 0, 2000, v -> broken(0, v, 2600, 30), 0, NONE);
        Limits.are("26, up to another one (greater, 3000 at most)", 1, 3000, v -> broken(0, 0, v, 30), 0, NONE);
        Limits.are("26, greater than 1500", 1501, 3000, v -> broken(0, 1500, v, 30), 0, NONE);
        Limits.are("26, greater than 2000", 2001, 3000, v -> broken(0, 2000, v, 30), 0, NONE);
        Limits.are("26, told 0 .. 5000", 0, 5000, v -> broken(0, 10, 20, v), 0, NONE);
        Due.is("26, all the least", broken(0, 0, 1, 0), 0);
        Due.is("26, all the most", broken(5, 2000, 3000, 5000), 0);
        CarriageHire x = new CarriageHire();
        x.carriages(1);
        Due.is("26, whatever CARRIAGES are", x.broken(5, 10, 20, 30), 0);
    }

    private static void promise26FortyAtMost() {
        CarriageHire x = new CarriageHire();
        for (int n = 0; n < 39; n++) {
            Due.is("26, its number", x.broken(n % 6, 50 * n, 50 * n + 1, n), n);
        }
        Due.is("26, 40 at most: the 40th", x.broken(5, 2000, 2001, 39), 39);
        Due.is("26, 40 at most: the 41st", x.broken(5, 2100, 2101, 40), NONE);
        Due.is("26, 40 at most: one that can't be", x.broken(6, 2000, 2101, 40), NONE);
        Due.is("26, 40 at most: about(4)", x.about(4), 40);
        Due.is("26, the 40th is there", x.whole(5, 2000, 39), 0);
        Due.no("27, none behind the 40th", x.untell(40, 5000));
        for (int n = 0; n < 40; n++) {
            Due.yes("27, each of 40", x.untell(n, n));
        }
        Due.is("26, UNTOLD ones are ENTRIES still", x.broken(0, 1, 2, 3), NONE);
        Twins full = new Twins(y -> {
            Twins.makeBusy(y);
            for (int n = y.about(4); n < 40; n++) {
                y.broken(1, 100 + n, 101 + n, 9);
            }
        });
        Due.is("26, if there are 40", full.tried.broken(3, 0, 3000, 0), NONE);
        full.areAlike("26, if there are 40");
    }

    private static void promise26RefusedDoesNothing() {
        int[][] bad = {{-1, 1, 2, 3}, {6, 1, 2, 3}, {3, -1, 2, 3}, {3, 2001, 2500, 3}, {3, 0, 0, 3}, {3, 5, 4, 3},
            {3, 2000, 2000, 3}, {3, 0, 3001, 3}, {3, 0, 3000, -1}, {3, 0, 3000, 5001}, {MIN, MAX, MIN, MAX},
            {3, MIN, 3000, 0}, {3, 0, MAX, 0}};
        Twins twins = Twins.busy();
        for (int[] b : bad) {
            Due.is("26, if it can't be", twins.tried.broken(b[0], b[1], b[2], b[3]), NONE);
        }
        twins.areAlike("26, if it can't be");
    }

    private static int untell(int told, int minute) {
        CarriageHire x = new CarriageHire();
        x.broken(0, 10, 20, told);
        return x.untell(0, minute) ? 1 : 0;
    }

    private static void promise27Limits() {
        for (int told : new int[] {0, 1, 2500, 4999, 5000}) {
            Limits.are("27, not before " + told + ", up to 5000", told, 5000, v -> untell(told, v), 1, 0);
        }
    }

    private static void promise27NoneSuchOrAlready() {
        CarriageHire x = new CarriageHire();
        Due.no("27, none at all", x.untell(0, 5));
        x.broken(0, 10, 20, 5);
        x.broken(1, 10, 20, 5);
        for (int entry : new int[] {-1, 2, 39, 40, 256, 65536, MIN, MAX}) {
            Due.no("27, none such: " + entry, x.untell(entry, 5));
        }
        Due.no("27, it can't be", x.untell(1, 4));
        Due.yes("27, but then it may", x.untell(1, 5));
        for (int minute : new int[] {4, 5, 6, 5000}) {
            Due.no("27, so already: " + minute, x.untell(1, minute));
        }
        Due.yes("27, the other one", x.untell(0, 5000));
        Due.is("27, it stays as it was first UNTOLD", x.whole(1, 10, 5), 1);
        Due.is("27, at 5000", x.whole(0, 10, 4999), 0);
        Due.is("27, at 5000", x.whole(0, 10, 5000), 1);
        CarriageHire y = new CarriageHire();
        y.broken(0, 10, 20, 0);
        Due.yes("27, at 0", y.untell(0, 0));
        Due.no("27, at 0 it is so already", y.untell(0, 1));
        Due.is("27, so it was never BROKEN", y.whole(0, 10, 0), 1);
        Due.is("27, so it was never BROKEN", y.whole(0, 10, 5000), 1);
    }

    private static void promise27RefusedDoesNothing() {
        int[][] bad = {{0, 8}, {0, 3}, {0, 5000}, {1, 4}, {1, -1}, {1, 5001}, {2, 4999}, {2, 5001}, {3, -1}, {4, 9},
            {-1, 9}, {40, 9}, {MIN, 9}, {MAX, 9}, {1, MIN}, {1, MAX}};
        Twins twins = Twins.busy();
        for (int[] b : bad) {
            Due.no("27, false: untell(" + b[0] + ", " + b[1] + ")", twins.tried.untell(b[0], b[1]));
        }
        twins.areAlike("27, false");
    }

    private static void promise28NoneSuch() {
        Limits.are("28, a CARRIAGE (0 .. 5)", 0, 5, v -> new CarriageHire().whole(v, 10, 10), 1, NONE);
        CarriageHire x = new CarriageHire();
        x.carriages(1);
        x.broken(5, 10, 20, 0);
        Due.is("28, whatever CARRIAGES are", x.whole(5, 10, 0), 0);
        for (int carriage = 0; carriage < 5; carriage++) {
            Due.is("28, each is its own", x.whole(carriage, 10, 0), 1);
        }
    }

    private static void promise28FromUpTo() {
        int[][] breaks = {{0, 1}, {10, 20}, {2000, 2001}, {2000, 3000}, {0, 3000}};
        for (int[] b : breaks) {
            CarriageHire x = new CarriageHire();
            x.broken(0, b[0], b[1], 0);
            String of = b[0] + " up to " + b[1];
            Due.is("28, ahead of " + of, x.whole(0, b[0] - 1, 0), 1);
            Due.is("28, the first of " + of, x.whole(0, b[0], 0), 0);
            Due.is("28, the last of " + of, x.whole(0, b[1] - 1, 0), 0);
            Due.is("28, not broken any more, " + of, x.whole(0, b[1], 0), 1);
        }
    }

    private static void promise28AsKnown() {
        int[][] times = {{0, 1}, {7, 7}, {7, 8}, {7, 30}, {4999, 5000}, {5000, 5000}, {0, 5000}};
        for (int[] t : times) {
            CarriageHire x = new CarriageHire();
            x.broken(2, 10, 20, t[0]);
            String of = "TOLD at " + t[0];
            Due.is("28, known before it was " + of, x.whole(2, 15, t[0] - 1), 1);
            Due.is("28, known as it was " + of, x.whole(2, 15, t[0]), 0);
            Due.is("28, known for ever, " + of, x.whole(2, 15, MAX), 0);
            x.untell(0, t[1]);
            of = of + ", UNTOLD at " + t[1];
            Due.is("28, before it was " + of, x.whole(2, 15, t[0] - 1), 1);
            Due.is("28, just before, " + of, x.whole(2, 15, t[1] - 1), t[1] - 1 >= t[0] ? 0 : 1);
            Due.is("28, then, " + of, x.whole(2, 15, t[1]), 1);
            Due.is("28, known for ever, " + of, x.whole(2, 15, MAX), 1);
        }
    }

    private static void promise28ManyEntries() {
        CarriageHire x = new CarriageHire();
        x.broken(0, 10, 20, 1);
        x.broken(0, 10, 20, 2);
        x.broken(0, 20, 30, 2);
        Due.is("28, one behind the other", x.whole(0, 20, 2), 0);
        x.untell(0, 3);
        Due.is("28, the other one has it BROKEN still", x.whole(0, 10, 3), 0);
        x.untell(1, 4);
        Due.is("28, neither has", x.whole(0, 10, 4), 1);
        Due.is("28, at 3 one had", x.whole(0, 10, 3), 0);
        Due.is("28, the third one has", x.whole(0, 20, 4), 0);
    }

    private static void promise28AnyMinute() {
        CarriageHire x = new CarriageHire();
        x.broken(0, 0, 3000, 0);
        int[] minutes = {MIN, -1, 0, 2999, 3000, 3001, MAX};
        int[] due = {1, 1, 0, 0, 1, 1, 1};
        for (int n = 0; n < minutes.length; n++) {
            Due.is("28, at " + minutes[n], x.whole(0, minutes[n], 0), due[n]);
            Due.is("28, known at none, " + minutes[n], x.whole(0, minutes[n], MIN), 1);
            Due.is("28, known at -1, " + minutes[n], x.whole(0, minutes[n], -1), 1);
        }
    }

    private static void promise29Limits() {
        Limits.are("29, a CARRIAGE (0 .. 5)", 0, 5, v -> new CarriageHire().free(v, 7, 1, 0), 7, NONE);
        Limits.are("29, n (1 .. 500)", 1, 500, v -> new CarriageHire().free(0, 7, v, 0), 7, NONE);
        Limits.are("29, m 0 .. 3000", 0, 3000, v -> Math.min(new CarriageHire().free(0, v, 1, 0), 0), 0, NONE);
        for (int m : new int[] {0, 1, 1499, 2999, 3000}) {
            for (int n : new int[] {1, 2, 499, 500}) {
                for (int k : new int[] {MIN, -1, 0, 5000, 5001, MAX}) {
                    Due.is("29, whole all day from " + m, new CarriageHire().free(0, m, n, k), m);
                }
            }
        }
        CarriageHire x = new CarriageHire();
        x.broken(0, 0, 3000, 0);
        for (int m : new int[] {-1, -2, -500, 3001, MIN, MAX}) {
            Due.is("29, m can't be: " + m, x.free(0, m, 1, 0), NONE);
            Due.is("29, m can't be, though it reaches a break: " + m, x.free(0, m, 500, 0), NONE);
        }
        for (int n : new int[] {-1, 0, 501, MIN, MAX}) {
            Due.is("29, n can't be, though it is BROKEN: " + n, x.free(0, 0, n, 0), NONE);
        }
    }

    private static void promise29To3000() {
        CarriageHire x = new CarriageHire();
        x.broken(0, 2000, 3000, 0);
        Due.is("29, to 3000: from 2000", x.free(0, 2000, 1, 0), 3000);
        Due.is("29, to 3000: from 2999", x.free(0, 2999, 500, 0), 3000);
        Due.is("29, to 3000: from 3000", x.free(0, 3000, 500, 0), 3000);
        Due.is("29, up to 2000", x.free(0, 1500, 500, 0), 1500);
        Due.is("29, a minute later", x.free(0, 1501, 500, 0), 3000);
        Due.is("29, the minute ahead", x.free(0, 1999, 1, 0), 1999);
        Due.is("29, two minutes", x.free(0, 1999, 2, 0), 3000);
        x.broken(0, 0, 2000, 0);
        Due.is("29, BROKEN all day", x.free(0, 0, 1, 0), 3000);
        Due.is("29, BROKEN all day", x.free(0, 0, 500, 0), 3000);
        Due.is("29, another one", x.free(1, 0, 500, 0), 0);
    }

    private static void promise29ForSoManyMinutes() {
        CarriageHire x = new CarriageHire();
        x.broken(0, 0, 1, 0);
        x.broken(0, 501, 502, 0);
        x.broken(0, 1001, 1002, 0);
        x.broken(0, 1501, 1600, 0);
        Due.is("29, 500 just fit", x.free(0, 0, 500, 0), 1);
        Due.is("29, 500 do not from 2 on", x.free(0, 2, 500, 0), 1600);
        Due.is("29, 499 do", x.free(0, 2, 499, 0), 2);
        Due.is("29, 499 from 3 on", x.free(0, 3, 499, 0), 502);
        Due.is("29, one minute", x.free(0, 500, 1, 0), 500);
        Due.is("29, one minute later", x.free(0, 501, 1, 0), 502);
        Due.is("29, at an end", x.free(0, 502, 1, 0), 502);
        Due.is("29, one BROKEN minute", x.free(0, 0, 1, 0), 1);
    }

    private static void promise29AsKnown() {
        CarriageHire x = new CarriageHire();
        x.broken(4, 100, 200, 50);
        x.broken(4, 200, 300, 60);
        x.untell(0, 70);
        int[] known = {MIN, 49, 50, 59, 60, 69, 70, MAX};
        int[] due = {100, 100, 200, 200, 300, 300, 100, 100};
        for (int n = 0; n < known.length; n++) {
            Due.is("29, AS KNOWN at " + known[n], x.free(4, 100, 10, known[n]), due[n]);
        }
        Due.is("29, 100 fit AS KNOWN at 70", x.free(4, 100, 100, 70), 100);
        Due.is("29, 101 do not", x.free(4, 100, 101, 70), 300);
    }

    private static void promise29FullBook() {
        CarriageHire x = new CarriageHire();
        for (int n = 39; n >= 0; n--) {
            x.broken(0, 50 * n, 50 * n + 50, 0);
        }
        Due.is("29, 40 ENTRIES, the last told first", x.free(0, 0, 1, 0), 2000);
        Due.is("29, 40 ENTRIES, ahead of the last", x.free(0, 1949, 1, 0), 2000);
        CarriageHire y = new CarriageHire();
        for (int n = 0; n < 40; n++) {
            y.broken(0, 50 * n, 50 * n + 49, 0);
        }
        Due.is("29, a minute between", y.free(0, 0, 1, 0), 49);
        Due.is("29, no two of them", y.free(0, 0, 2, 0), 1999);
        y.untell(39, 0);
        Due.is("29, without the 40th", y.free(0, 0, 2, 0), 1949);
    }

    private static void promise30What() {
        CarriageHire x = new CarriageHire();
        for (int what : new int[] {-1, 6, 7, 256, 65536, MIN, MAX}) {
            Due.is("30, another what: " + what, x.about(what), NONE);
        }
    }

    private static void promise30EmptyAndFull() {
        CarriageHire x = new CarriageHire();
        int[] empty = {0, 0, 2, 0, 0, 0};
        for (int what = 0; what < 6; what++) {
            Due.is("30, at first: " + what, x.about(what), empty[what]);
        }
        Due.prices(x, "price 1;".repeat(10));
        for (int n = 0; n < 41; n++) {
            x.horse(1, 150, 8, 500);
            x.job(0, 0, 0, 0, 0, 1);
            x.carriages(n);
            x.broken(0, 1, 2, 3);
            x.feed(0, 0, 0, 0, 0);
        }
        int[] full = {16, 10, 6, 10, 40, 600};
        for (int what = 0; what < 6; what++) {
            Due.is("30, full: " + what, x.about(what), full[what]);
        }
        for (int n = 0; n < 10; n++) {
            x.drop(n);
        }
        Due.is("30, JOBS (dropped ones, too)", x.about(1), 10);
        Due.is("30, a FAULT", x.prices(), NONE);
        Due.is("30, the TAPE is empty then", x.about(5), 0);
        Due.is("30, lines stay", x.about(3), 10);
        Due.is("30, no lines", x.prices() + x.about(3), 0);
    }
}
