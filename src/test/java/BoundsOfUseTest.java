/** "An object is used for at most 512 calls": up to the last of them, with the dearest calls again and again. */
public final class BoundsOfUseTest {
    private static final int NONE = CarriageHire.NONE;
    private static final int CALLS = 512;

    private BoundsOfUseTest() {
    }

    public static void main(String[] args) {
        lastCallAfterRefusedOnes();
        laysToTheLastCall();
        pricesToTheLastCall();
        emptyPricesToTheLastCall();
        standInsToTheLastCall();
        bookToTheLastCall();
        objectsAreApart();
        Due.finish();
    }

    private static void lastCallAfterRefusedOnes() {
        CarriageHire x = new CarriageHire();
        for (int call = 1; call < CALLS; call++) {
            Due.is("2, refused", x.horse(8, 150, 8, 500), NONE);
        }
        Due.is("2, the 512th call", x.horse(7, 150, 8, 500), 0);
    }

    private static void laysToTheLastCall() {
        CarriageHire x = new CarriageHire();
        x.carriages(6);
        for (int n = 0; n < 10; n++) {
            x.job(0, 1, 1, 140 * n, 0, 1);
        }
        for (int call = 13; call <= CALLS; call += 2) {
            int minutes = call % 301;
            x.way(0, 1, minutes);
            Due.is("14, there and back by one CARRIAGE", x.empty(), 2 * minutes);
        }
    }

    private static void pricesToTheLastCall() {
        CarriageHire x = new CarriageHire();
        int calls = 0;
        for (int round = 0; calls + 33 <= CALLS; round++) {
            String text = "price " + round + "+late" + "*1".repeat(90) + ";";
            Due.type(x, text + " ".repeat(600 - text.length()));
            Due.is("23, 600 bytes again", x.prices(), 1);
            int job = x.job(0, 0, 0, 0, 0, 1);
            Due.is("10, ten at most", job, round < 10 ? round : NONE);
            calls += 34;
        }
        for (int n = 0; n < 10; n++) {
            Due.is("25, each by its own text", x.price(n, 5), n + 5);
        }
    }

    private static void emptyPricesToTheLastCall() {
        CarriageHire x = new CarriageHire();
        for (int call = 1; call <= CALLS; call++) {
            Due.is("23, an empty TAPE", x.prices(), 0);
        }
    }

    private static void standInsToTheLastCall() {
        CarriageHire x = new CarriageHire();
        for (int n = 0; n < 16; n++) {
            x.horse(1, 150, 8, 1000);
        }
        for (int n = 0; n < 10; n++) {
            x.job(0, 0, 0, 140 * n, 0, 4);
            x.team(n, 0b1111);
        }
        for (int call = 37; call <= CALLS; call++) {
            Due.is("20, of 16 with ten JOBS", x.standIn(9, call % 4), 4);
        }
    }

    private static void bookToTheLastCall() {
        CarriageHire x = new CarriageHire();
        for (int n = 39; n >= 0; n--) {
            x.broken(0, 50 * n, 50 * n + 50, 0);
        }
        for (int call = 41; call <= CALLS; call++) {
            Due.is("29, behind 40 ENTRIES", x.free(0, call, 500, 0), 2000);
        }
    }

    private static void objectsAreApart() {
        CarriageHire[] all = new CarriageHire[50];
        for (int n = 0; n < all.length; n++) {
            all[n] = new CarriageHire();
            Due.prices(all[n], "price " + n + ";");
            all[n].way(0, 1, n);
            all[n].job(0, 0, 1, 100, 0, 1);
        }
        for (int n = 0; n < all.length; n++) {
            Due.is("1, a new object has its own WAYS", all[n].of(0, 0), 100 + n);
            Due.is("1, a new object has its own PRICES", all[n].price(0, 0), n);
        }
    }
}
