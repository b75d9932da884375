/** Promises 1 to 4, 8 and 9 at their bounds: each sentence about HORSES, SPANS and MATCHES that names one. */
public final class BoundsOfHorsesTest {
    private static final int NONE = CarriageHire.NONE;
    private static final int MIN = Integer.MIN_VALUE;
    private static final int MAX = Integer.MAX_VALUE;

    private BoundsOfHorsesTest() {
    }

    public static void main(String[] args) {
        promise1NewObjectHasNothing();
        promise1NewObjectHasWhatIsAtFirst();
        promise2Limits();
        promise2SixteenAtMost();
        promise2RefusedDoesNothing();
        promise3NoneSuch();
        promise3RefusedDoesNothing();
        promise4Limits();
        promise4AtFirst();
        promise4RefusedDoesNothing();
        promise8TwoOrMore();
        promise8OneIsNone();
        promise8DifferAtMost();
        promise8SixteenAtOnce();
        promise9TwoOrFourAlone();
        promise9FewAndAll();
        promise9DifferAtMost();
        Due.finish();
    }

    private static void promise1NewObjectHasNothing() {
        CarriageHire x = new CarriageHire();
        for (int what : new int[] {0, 1, 3, 4, 5}) {
            Due.is("1, no HORSES, JOBS, PRICES: about(" + what + ")", x.about(what), 0);
        }
        Due.no("1, no HORSES: lame", x.lame(0, true));
        Due.no("1, no HORSES: match(1)", x.match(1));
        Due.no("1, no HORSES: match(3)", x.match(3));
        Due.is("1, no HORSES: matches(2)", x.matches(2), 0);
        Due.is("1, no HORSES: matches(4)", x.matches(4), 0);
        Due.no("1, no JOBS: drop", x.drop(0));
        Due.no("1, no JOBS: behind", x.behind(0, 1));
        for (int what = 0; what < 4; what++) {
            Due.is("1, no JOBS: of(0, " + what + ")", x.of(0, what), NONE);
        }
        Due.is("1, no JOBS: empty", x.empty(), 0);
        Due.is("1, no JOBS: chains", x.chains(), 0);
        Due.is("1, no JOBS: chain", x.chain(0), NONE);
        Due.no("1, no JOBS: team", x.team(0, 0));
        Due.is("1, no JOBS: right", x.right(0), NONE);
        Due.is("1, no JOBS: strength", x.strength(0, 0), NONE);
        Due.is("1, no JOBS: standIn", x.standIn(0, 0), NONE);
        Due.is("1, no JOBS: price", x.price(0, 0), 0);
        Due.is("1, an empty TAPE: end(0)", x.end(0), 0);
        Due.is("1, an empty TAPE: end(1)", x.end(1), NONE);
        Due.is("1, no FAULT yet", x.fault(0), 0);
        Due.is("1, no place yet", x.fault(1), NONE);
        Due.is("1, an empty TAPE: prices", x.prices(), 0);
        Due.no("1, no ENTRIES: untell", x.untell(0, 0));
        for (int carriage = 0; carriage < 6; carriage++) {
            Due.is("1, no ENTRIES: whole", x.whole(carriage, 0, 5000), 1);
            Due.is("1, no ENTRIES: free", x.free(carriage, 0, 500, 5000), 0);
        }
    }

    private static void promise1NewObjectHasWhatIsAtFirst() {
        CarriageHire x = new CarriageHire();
        Due.is("1, CARRIAGES 2 at first", x.about(2), 2);
        for (int place = 1; place < 8; place++) {
            x.job(2, 0, place, 1400, 0, 1);
            Due.is("1, all WAYS 0: to " + place, x.of(place - 1, 0), 1400);
        }
        x.horse(0, 100, 1, 0);
        x.team(0, 1);
        Due.is("1, NEED 0 at first, and no WAY costs", x.right(0), 0);
        Due.is("1, PRICES at first none", x.of(0, 3), 0);
        Due.is("1, without a line the PRICE is 0", x.price(0, 1000), 0);
    }

    private static void promise2Limits() {
        Limits.are("2, COLOUR (0 .. 7)", 0, 7, v -> new CarriageHire().horse(v, 150, 8, 500), 0, NONE);
        Limits.are("2, HEIGHT (100 .. 200)", 100, 200, v -> new CarriageHire().horse(1, v, 8, 500), 0, NONE);
        Limits.are("2, PACE (1 .. 20)", 1, 20, v -> new CarriageHire().horse(1, 150, v, 500), 0, NONE);
        Limits.are("2, STRENGTH (0 .. 1000)", 0, 1000, v -> new CarriageHire().horse(1, 150, 8, v), 0, NONE);
        CarriageHire x = new CarriageHire();
        Due.is("2, all the least", x.horse(0, 100, 1, 0), 0);
        Due.is("2, all the most", x.horse(7, 200, 20, 1000), 1);
        x.job(0, 0, 0, 0, 0, 1);
        for (int horse = 0; horse < 2; horse++) {
            x.team(0, 1 << horse);
            Due.is("2, STRENGTH as given", x.strength(0, horse), 1000 * horse);
        }
    }

    private static void promise2SixteenAtMost() {
        CarriageHire x = new CarriageHire();
        for (int n = 0; n < 15; n++) {
            x.horse(1, 150, 8, n);
        }
        Due.is("2, 16 at most: the 16th", x.horse(1, 150, 8, 15), 15);
        Due.is("2, 16 at most: the 17th", x.horse(1, 150, 8, 16), NONE);
        Due.is("2, 16 at most: one that can't be", x.horse(8, 150, 8, 16), NONE);
        Due.is("2, 16 at most: about(0)", x.about(0), 16);
        Due.yes("2, 16 at most: the last one is there", x.lame(15, false));
        Due.no("2, 16 at most: there is none behind it", x.lame(16, false));
        x.job(0, 0, 0, 0, 0, 1);
        for (int n = 0; n < 16; n++) {
            x.team(0, 1 << n);
            Due.is("2, 16 at most: STRENGTH of " + n, x.strength(0, n), n);
        }
        Twins full = new Twins(y -> {
            Twins.makeBusy(y);
            for (int n = y.about(0); n < 16; n++) {
                y.horse(2, 160, 8, 500);
            }
        });
        Due.is("2, if there are 16", full.tried.horse(1, 150, 8, 500), NONE);
        full.areAlike("2, if there are 16");
    }

    private static void promise2RefusedDoesNothing() {
        int[][] bad = {{-1, 150, 8, 500}, {8, 150, 8, 500}, {1, 99, 8, 500}, {1, 201, 8, 500}, {1, 150, 0, 500},
            {1, 150, 21, 500}, {1, 150, 8, -1}, {1, 150, 8, 1001}, {MIN, MAX, MIN, MAX}};
        Twins twins = Twins.busy();
        for (int[] b : bad) {
            Due.is("2, if it can't be", twins.tried.horse(b[0], b[1], b[2], b[3]), NONE);
        }
        twins.areAlike("2, if it can't be");
    }

    private static void promise3NoneSuch() {
        CarriageHire x = new CarriageHire();
        Due.no("3, none such: none at all", x.lame(0, true));
        x.horse(1, 150, 8, 500);
        x.horse(1, 150, 8, 500);
        Due.yes("3, the first one", x.lame(0, true));
        Due.yes("3, the last one", x.lame(1, true));
        Due.yes("3, LAME already", x.lame(1, true));
        Due.yes("3, not LAME", x.lame(1, false));
        Due.yes("3, not LAME already", x.lame(1, false));
        for (int horse : new int[] {-1, 2, 15, 16, 32, 33, -32, MIN, MAX}) {
            Due.no("3, none such: " + horse, x.lame(horse, true));
            Due.no("3, none such: " + horse, x.lame(horse, false));
        }
    }

    private static void promise3RefusedDoesNothing() {
        Twins twins = Twins.busy();
        // 32, 33 and -26 are bits of 0, 1 and 6 again; 3 is LAME.
        for (int horse : new int[] {-1, 6, 16, 32, 33, 35, -29, -26, MIN, MAX}) {
            Due.no("3, none such: " + horse, twins.tried.lame(horse, true));
            Due.no("3, none such: " + horse, twins.tried.lame(horse, false));
        }
        twins.areAlike("3, if there is none such");
    }

    private static void promise4Limits() {
        Limits.are("4, HEIGHTS (0 .. 50)", 0, 50, v -> Limits.asInt(new CarriageHire().spans(v, 2)), 1, 0);
        Limits.are("4, PACES (0 .. 10)", 0, 10, v -> Limits.asInt(new CarriageHire().spans(5, v)), 1, 0);
        CarriageHire x = new CarriageHire();
        x.horse(1, 100, 1, 0);
        x.horse(1, 100, 1, 0);
        x.horse(1, 101, 1, 0);
        x.horse(1, 100, 2, 0);
        x.horse(1, 150, 11, 0);
        x.horse(1, 151, 11, 0);
        x.horse(1, 150, 12, 0);
        Due.yes("4, the least", x.spans(0, 0));
        Due.yes("4, the least: like ones", x.match(0b11));
        Due.no("4, the least: a HEIGHT more", x.match(0b101));
        Due.no("4, the least: a PACE more", x.match(0b1001));
        Due.yes("4, the most", x.spans(50, 10));
        Due.yes("4, the most: 50 and 10", x.match(0b10001));
        Due.no("4, the most: 51 and 10", x.match(0b100001));
        Due.no("4, the most: 50 and 11", x.match(0b1000001));
    }

    private static void promise4AtFirst() {
        CarriageHire x = new CarriageHire();
        x.horse(1, 150, 8, 0);
        x.horse(1, 155, 8, 0);
        x.horse(1, 156, 8, 0);
        x.horse(1, 150, 10, 0);
        x.horse(1, 150, 11, 0);
        Due.yes("4, 5 at first", x.match(0b11));
        Due.no("4, 5 at first: 6", x.match(0b101));
        Due.yes("4, 2 at first", x.match(0b1001));
        Due.no("4, 2 at first: 3", x.match(0b10001));
    }

    private static void promise4RefusedDoesNothing() {
        int[][] bad = {{-1, 2}, {51, 2}, {5, -1}, {5, 11}, {50, 11}, {51, 10}, {0, -1}, {-1, 0}, {MIN, MAX},
            {MAX, MIN}};
        Twins twins = Twins.busy();
        for (int[] b : bad) {
            Due.no("4, if one can't be: " + b[0] + ", " + b[1], twins.tried.spans(b[0], b[1]));
        }
        twins.areAlike("4, if one can't be");
    }

    private static CarriageHire withLike(int count) {
        CarriageHire x = new CarriageHire();
        for (int n = 0; n < count; n++) {
            x.horse(1, 150, 8, 500);
        }
        return x;
    }

    private static void promise8TwoOrMore() {
        CarriageHire x = withLike(3);
        Due.no("8, fewer: none", x.match(0));
        for (int horse = 0; horse < 3; horse++) {
            Due.no("8, fewer: one", x.match(1 << horse));
        }
        Due.yes("8, two", x.match(0b11));
        Due.yes("8, two", x.match(0b110));
        Due.yes("8, more: three", x.match(0b111));
    }

    private static void promise8OneIsNone() {
        CarriageHire x = withLike(2);
        for (int bit = 2; bit < 32; bit++) {
            Due.no("8, one is none: " + bit, x.match(0b11 | 1 << bit));
            Due.no("8, one is none: 0 and " + bit, x.match(0b1 | 1 << bit));
            Due.no("8, none of them is: " + bit, x.match(1 << bit | 1 << 2));
        }
        Due.no("8, all bits", x.match(-1));
        CarriageHire full = withLike(16);
        for (int bit = 16; bit < 32; bit++) {
            Due.no("8, one is none, of 16: " + bit, full.match(0b11 | 1 << bit));
        }
    }

    private static void promise8DifferAtMost() {
        for (int span = 0; span <= 50; span += 25) {
            CarriageHire x = new CarriageHire();
            x.spans(span, span / 5);
            x.horse(3, 120, 10, 0);
            x.horse(3, 120 + span, 10, 0);
            x.horse(3, 121 + span, 10, 0);
            x.horse(3, 120, 10 + span / 5, 0);
            x.horse(3, 120, 11 + span / 5, 0);
            x.horse(4, 120, 10, 0);
            Due.yes("8, HEIGHT by " + span, x.match(0b11));
            Due.no("8, HEIGHT by one more", x.match(0b101));
            Due.yes("8, PACE by " + span / 5, x.match(0b1001));
            Due.no("8, PACE by one more", x.match(0b10001));
            Due.yes("8, HEIGHT of one and PACE of another", x.match(0b1011));
            Due.no("8, the COLOUR next to it", x.match(0b100001));
        }
        CarriageHire x = new CarriageHire();
        x.horse(0, 100, 1, 0);
        x.horse(0, 200, 20, 0);
        x.horse(7, 100, 1, 0);
        x.spans(50, 10);
        Due.no("8, the least and the most HEIGHT and PACE", x.match(0b11));
        Due.no("8, the least and the most COLOUR", x.match(0b101));
    }

    private static void promise8SixteenAtOnce() {
        CarriageHire x = withLike(15);
        Due.yes("8, all 15", x.match(0x7fff));
        Due.no("8, one of 16 is none", x.match(0xffff));
        x.horse(1, 156, 8, 0);
        Due.no("8, the last of 16 differs", x.match(0xffff));
        x.spans(6, 2);
        Due.yes("8, all 16", x.match(0xffff));
        Due.no("8, a 17th is none", x.match(0x1ffff));
    }

    private static void promise9TwoOrFourAlone() {
        CarriageHire x = withLike(4);
        Limits.areOnly("9, n (2)", new int[] {2}, n -> n == 4 ? NONE : x.matches(n), 6, NONE);
        Limits.areOnly("9, n (4)", new int[] {4}, n -> n == 2 ? NONE : x.matches(n), 1, NONE);
    }

    private static void promise9FewAndAll() {
        int[] twos = {0, 0, 1, 3, 6, 10};
        int[] fours = {0, 0, 0, 0, 1, 5};
        for (int count = 0; count < twos.length; count++) {
            Due.is("9, twos of " + count, withLike(count).matches(2), twos[count]);
            Due.is("9, fours of " + count, withLike(count).matches(4), fours[count]);
        }
        Due.is("9, twos of 16", withLike(16).matches(2), 120);
        Due.is("9, fours of 16", withLike(16).matches(4), 1820);
        CarriageHire x = new CarriageHire();
        for (int n = 0; n < 16; n++) {
            x.horse(n % 8, 150 + n / 8 * 6, 8, 0);
        }
        Due.is("9, none of 16", x.matches(2), 0);
        x.spans(6, 0);
        Due.is("9, one of each COLOUR", x.matches(2), 8);
        Due.is("9, none of four", x.matches(4), 0);
    }

    private static void promise9DifferAtMost() {
        CarriageHire x = new CarriageHire();
        for (int n = 0; n < 16; n++) {
            x.horse(1, 150 + n, 8, 0);
        }
        int[] spans = {5, 2, 3, 15, 14, 0};
        int[] twos = {65, 29, 42, 120, 119, 0};
        int[] fours = {115, 0, 13, 1820, 1729, 0};
        for (int n = 0; n < spans.length; n++) {
            x.spans(spans[n], 0);
            Due.is("9, two by " + spans[n] + " at most", x.matches(2), twos[n]);
            Due.is("9, each two of four by " + spans[n] + " at most", x.matches(4), fours[n]);
        }
        CarriageHire y = new CarriageHire();
        y.horse(1, 150, 8, 0);
        y.horse(1, 155, 8, 0);
        y.horse(1, 150, 10, 0);
        y.horse(1, 155, 10, 0);
        Due.is("9, four in a square", y.matches(4), 1);
        y.horse(1, 156, 8, 0);
        Due.is("9, one that reaches but two", y.matches(2), 8);
        Due.is("9, one that reaches but two", y.matches(4), 1);
    }
}
