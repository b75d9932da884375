/** Promises 2, 3, 4, 8 and 9: HORSES, LAME, SPANS, and which HORSES MATCH. */
public final class StableTest {
    private StableTest() {
    }

    public static void main(String[] args) {
        horseTakesItsLimits();
        horseRefusesWhatCannotBe();
        sixteenHorsesAtMost();
        lameNeedsAHorse();
        spansTakeTheirLimits();
        matchLooksAtEachTwo();
        matchWantsTwoThatAre();
        spansAtTheEdge();
        matchesOfAnotherNumber();
        matchesAsCountedOneByOne();
        Due.finish();
    }

    private static void horseTakesItsLimits() {
        CarriageHire x = new CarriageHire();
        Due.is("2: least of all", x.horse(0, 100, 1, 0), 0);
        Due.is("2: most of all", x.horse(7, 200, 20, 1000), 1);
        Due.is("2: about(0)", x.about(0), 2);
    }

    private static void horseRefusesWhatCannotBe() {
        CarriageHire x = new CarriageHire();
        int[][] bad = {{-1, 150, 5, 5}, {8, 150, 5, 5}, {1, 99, 5, 5}, {1, 201, 5, 5}, {1, 150, 0, 5}, {1, 150, 21, 5},
            {1, 150, 5, -1}, {1, 150, 5, 1001}, {Integer.MIN_VALUE, 150, 5, 5}, {1, Integer.MAX_VALUE, 5, 5}};
        for (int[] b : bad) {
            Due.is("2: what can't be", x.horse(b[0], b[1], b[2], b[3]), CarriageHire.NONE);
        }
        Due.is("2: nothing done", x.about(0), 0);
        Due.is("2: the first one", x.horse(1, 150, 5, 5), 0);
    }

    private static void sixteenHorsesAtMost() {
        CarriageHire x = new CarriageHire();
        for (int n = 0; n < 16; n++) {
            Due.is("2: number", x.horse(n % 8, 150, 5, 5), n);
        }
        Due.is("2: the 17th", x.horse(1, 150, 5, 5), CarriageHire.NONE);
        Due.is("2: about(0)", x.about(0), 16);
        Due.yes("8: 0 and 8 are of one COLOUR", x.match(1 | 1 << 8));
        Due.yes("8: 7 and 15", x.match(1 << 7 | 1 << 15));
        Due.no("8: bit 16 is none", x.match(1 | 1 << 8 | 1 << 16));
        Due.no("8: bit 31 is none", x.match(1 | 1 << 31));
    }

    private static void lameNeedsAHorse() {
        CarriageHire x = new CarriageHire();
        Due.no("3: no HORSE at all", x.lame(0, true));
        x.horse(1, 150, 5, 500);
        x.horse(1, 150, 5, 500);
        Due.yes("3: there is one", x.lame(0, true));
        Due.yes("3: again", x.lame(0, true));
        Due.no("3: below", x.lame(-1, true));
        Due.no("3: beyond", x.lame(2, false));
        Due.no("3: far beyond", x.lame(Integer.MAX_VALUE, false));
        Due.yes("8: LAME ones MATCH all the same", x.match(3));
        Due.is("9: and are counted", x.matches(2), 1);
        x.job(0, 0, 0, 0, 0, 1);
        x.team(0, 1);
        Due.is("3: LAME", x.right(0), 3);
        Due.yes("3: not any more", x.lame(0, false));
        Due.is("3: not LAME", x.right(0), 0);
    }

    private static void spansTakeTheirLimits() {
        CarriageHire x = new CarriageHire();
        Due.yes("4: least", x.spans(0, 0));
        Due.yes("4: most", x.spans(50, 10));
        x.horse(1, 100, 1, 0);
        x.horse(1, 150, 11, 0);
        Due.yes("4: most, used", x.match(3));
        Due.no("4: height too great", x.spans(51, 0));
        Due.no("4: height below 0", x.spans(-1, 0));
        Due.no("4: pace too great", x.spans(0, 11));
        Due.no("4: pace below 0", x.spans(0, -1));
        Due.yes("4: nothing done", x.match(3));
        Due.yes("4: 49", x.spans(49, 10));
        Due.no("4: height differs by more", x.match(3));
        Due.yes("4: 9", x.spans(50, 9));
        Due.no("4: pace differs by more", x.match(3));
    }

    private static void matchLooksAtEachTwo() {
        CarriageHire x = new CarriageHire();
        x.horse(1, 150, 8, 0);
        x.horse(1, 154, 8, 0);
        x.horse(1, 158, 8, 0);
        x.horse(1, 154, 10, 0);
        x.horse(1, 154, 6, 0);
        x.horse(2, 154, 8, 0);
        Due.yes("8: 0 1", x.match(0b11));
        Due.yes("8: 1 2", x.match(0b110));
        Due.no("8: 0 2 too far in HEIGHT", x.match(0b101));
        Due.no("8: 0 1 2 neither", x.match(0b111));
        Due.yes("8: 1 3", x.match(0b1010));
        Due.no("8: 3 4 too far in PACE", x.match(0b11000));
        Due.no("8: 1 3 4 neither", x.match(0b11010));
        Due.yes("8: 0 1 3", x.match(0b1011));
        Due.no("8: another COLOUR", x.match(0b100010));
    }

    private static void matchWantsTwoThatAre() {
        CarriageHire x = new CarriageHire();
        Due.no("8: none at all", x.match(3));
        x.horse(1, 150, 8, 0);
        x.horse(1, 150, 8, 0);
        Due.no("8: 0", x.match(0));
        Due.no("8: one", x.match(1));
        Due.no("8: one", x.match(2));
        Due.yes("8: two", x.match(3));
        Due.no("8: one is none", x.match(5));
        Due.no("8: one more is none", x.match(7));
        Due.no("8: -1", x.match(-1));
        Due.no("8: the least int", x.match(Integer.MIN_VALUE | 1));
    }

    private static void spansAtTheEdge() {
        CarriageHire x = new CarriageHire();
        x.horse(1, 150, 8, 0);
        x.horse(1, 155, 10, 0);
        x.horse(1, 156, 8, 0);
        x.horse(1, 150, 11, 0);
        Due.yes("4: at first 5 and 2", x.match(0b11));
        Due.no("4: 6 is more", x.match(0b101));
        Due.no("4: 3 is more", x.match(0b1001));
        x.spans(0, 0);
        Due.no("4: 0 and 0", x.match(0b11));
        x.horse(1, 150, 8, 0);
        Due.yes("4: 0 and 0, like ones", x.match(0b10001));
    }

    private static void matchesOfAnotherNumber() {
        CarriageHire x = new CarriageHire();
        Due.is("9: none yet", x.matches(2), 0);
        Due.is("9: none yet", x.matches(4), 0);
        for (int n = 0; n < 16; n++) {
            x.horse(3, 150, 8, 0);
        }
        Due.is("9: all pairs", x.matches(2), 120);
        Due.is("9: all fours", x.matches(4), 1820);
        CarriageHire y = new CarriageHire();
        for (int n = 0; n < 6; n++) {
            y.horse(3, 150 + n, 8, 0);
        }
        Due.is("9: within 5", y.matches(2), 15);
        y.spans(1, 2);
        Due.is("9: within 1", y.matches(2), 5);
        Due.is("9: within 1", y.matches(4), 0);
        y.spans(3, 2);
        Due.is("9: within 3", y.matches(4), 3);
        for (int n : new int[] {-1, 0, 1, 3, 5, 6, 16, Integer.MAX_VALUE, Integer.MIN_VALUE}) {
            Due.is("9: matches(" + n + ")", x.matches(n), CarriageHire.NONE);
        }
    }

    private static void matchesAsCountedOneByOne() {
        java.util.Random random = new java.util.Random(9);
        for (int run = 0; run < 30; run++) {
            CarriageHire x = new CarriageHire();
            int[][] horses = new int[random.nextInt(17)][3];
            for (int[] h : horses) {
                h[0] = random.nextInt(2);
                h[1] = 148 + random.nextInt(8);
                h[2] = 7 + random.nextInt(4);
                x.horse(h[0], h[1], h[2], 0);
            }
            int height = random.nextInt(8);
            int pace = random.nextInt(4);
            x.spans(height, pace);
            int[] counted = new int[17];
            for (int bits = 0; bits < 1 << horses.length; bits++) {
                counted[Integer.bitCount(bits)] += allMatch(horses, bits, height, pace) ? 1 : 0;
            }
            Due.is("9: matches(2)", x.matches(2), counted[2]);
            Due.is("9: matches(4)", x.matches(4), counted[4]);
            for (int n = 0; n < 100; n++) {
                int bits = random.nextInt(1 << horses.length);
                Due.is("8: match(" + bits + ")", x.match(bits) ? 1 : 0,
                        Integer.bitCount(bits) >= 2 && allMatch(horses, bits, height, pace) ? 1 : 0);
            }
        }
    }

    private static boolean allMatch(int[][] horses, int bits, int height, int pace) {
        for (int a = 0; a < horses.length; a++) {
            for (int b = 0; b < a; b++) {
                if ((bits >> a & bits >> b & 1) == 1 && (horses[a][0] != horses[b][0]
                        || Math.abs(horses[a][1] - horses[b][1]) > height
                        || Math.abs(horses[a][2] - horses[b][2]) > pace)) {
                    return false;
                }
            }
        }
        return true;
    }
}
