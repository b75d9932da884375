/** Promises 21 to 25: the TAPE, PRICES, their FAULTS, and the PRICE of a JOB. */
public final class PricesTest {
    private static final int NONE = CarriageHire.NONE;

    private PricesTest() {
    }

    public static void main(String[] args) {
        feedTakesTheHighestByteFirst();
        sixHundredBytesAtMost();
        endCutsTheTape();
        pricesEmptyTheTape();
        pricesStayWithAFault();
        faultTellsOfTheLatest();
        textsWithoutAFault();
        noToken();
        cannotStand();
        noSuchName();
        elevenLines();
        aHundredOperands();
        eightWithin();
        values();
        names();
        theFirstLineThatHolds();
        bookedUnderThePricesOfThen();
        priceOfNone();
        Due.finish();
    }

    private static void feedTakesTheHighestByteFirst() {
        CarriageHire x = new CarriageHire();
        Due.is("21: twenty bytes", x.feed(0x70726963, 0x65203132, 0x2b2d3334, 0x3b0a2020, 0x70726963), 20);
        Due.is("21: twenty more", x.feed(0x6520353b, 0x20202020, 0x20202020, 0x20202020, 0x20202020), 40);
        Due.is("23: price 12+-34; price 5;", x.prices(), 2);
        x.job(0, 0, 0, 0, 0, 1);
        Due.is("25: 12 + -34", x.price(0, 0), -22);
    }

    private static void sixHundredBytesAtMost() {
        CarriageHire x = new CarriageHire();
        for (int n = 1; n <= 30; n++) {
            Due.is("21: feed " + n, x.feed(0x20202020, 0x20202020, 0x20202020, 0x20202020, 0x20202020), 20 * n);
        }
        Due.is("21: the 31st", x.feed(0, 0, 0, 0, 0), NONE);
        Due.is("21: nothing comes", x.about(5), 600);
        x.end(581);
        Due.is("21: 601", x.feed(0, 0, 0, 0, 0), NONE);
        Due.is("21: nothing comes", x.about(5), 581);
        x.end(580);
        Due.is("21: 600", x.feed(0x20202020, 0x20202020, 0x20202020, 0x20202020, 0x20202020), 600);
        Due.is("23: 600 blanks", x.prices(), 0);
        Due.is("24: no FAULT", x.fault(0), 0);
    }

    private static void endCutsTheTape() {
        CarriageHire x = new CarriageHire();
        Due.is("22: 0 of none", x.end(0), 0);
        Due.is("22: 1 of none", x.end(1), NONE);
        Due.type(x, "price 1;price 2;");
        Due.is("22: all", x.end(16), 16);
        Due.is("22: one too many", x.end(17), NONE);
        Due.is("22: below 0", x.end(-1), NONE);
        Due.is("22: far below 0", x.end(Integer.MIN_VALUE), NONE);
        Due.is("22: far too many", x.end(Integer.MAX_VALUE), NONE);
        Due.is("22: nothing done", x.about(5), 16);
        Due.is("22: half", x.end(8), 8);
        Due.type(x, " price 3; price 4;");
        Due.is("22: what comes then is behind it", x.about(5), 26);
        Due.is("23: three lines", x.prices(), 3);
    }

    private static void pricesEmptyTheTape() {
        CarriageHire x = new CarriageHire();
        Due.type(x, "price 1;");
        Due.is("23: one line", x.prices(), 1);
        Due.is("23: the TAPE is empty", x.about(5), 0);
        Due.is("23: no lines", x.prices(), 0);
        Due.is("23: about(3)", x.about(3), 0);
        Due.type(x, "price ;");
        Due.is("23: a FAULT", x.prices(), NONE);
        Due.is("23: the TAPE is empty all the same", x.about(5), 0);
        Due.is("23: no lines", x.prices(), 0);
    }

    private static void pricesStayWithAFault() {
        CarriageHire x = new CarriageHire();
        Due.prices(x, "price 5; price 6;");
        Due.is("23: a FAULT", Due.prices(x, "price 7; price"), NONE);
        Due.is("23: the PRICES stay", x.about(3), 2);
        x.job(0, 0, 0, 0, 0, 1);
        Due.is("23: the PRICES stay", x.price(0, 0), 5);
        Due.is("23: others", Due.prices(x, "price 8;"), 1);
        Due.is("25: as BOOKED", x.price(0, 0), 5);
    }

    private static void faultTellsOfTheLatest() {
        CarriageHire x = new CarriageHire();
        Due.is("24: none yet", x.fault(0), 0);
        Due.is("24: none yet", x.fault(1), NONE);
        Due.prices(x, "price 1; ?");
        Due.is("24: no TOKEN", x.fault(0), 1);
        Due.is("24: at 9", x.fault(1), 9);
        Due.type(x, "price 1;");
        Due.is("24: not read yet", x.fault(1), 9);
        x.prices();
        Due.is("24: none any more", x.fault(0), 0);
        Due.is("24: none any more", x.fault(1), NONE);
        for (int what : new int[] {-1, 2, 3, Integer.MAX_VALUE, Integer.MIN_VALUE}) {
            Due.is("24: fault(" + what + ")", x.fault(what), NONE);
        }
    }

    private static void textsWithoutAFault() {
        String[] one = {"price 1;", " \n price\n1 ; \n", "price1;", "price(1);", "when 1 price 1;", "when(1)price(1);",
            "price 1 or 2 and 3;", "price not not 1;", "price 1<2;", "price (1<2)<3;", "price 1<(2<3);",
            "price 1<2 or 2=3 and 4>5;", "price 1+2-3*4/5;", "price --1;", "price 1--1;", "price 1*-1;", "price 999999;",
            "price 000000;", "price kind+way+wait+begin+horses+late;", "price not 1<2;", "price -(1 or 2);",
            "when kind price 1;", "price(((((((1)))))));", "price way-1;"};
        for (String text : one) {
            fault(text, 0, NONE);
        }
        fault("", 0, NONE);
        fault("   \n  ", 0, NONE);
        fault("price 1;price 2;when 3 price 4;", 0, NONE);
    }

    private static void noToken() {
        fault("$", 1, 0);
        fault("price $;", 1, 6);
        fault("price 1 $", 1, 8);
        fault("price 1$;", 1, 7);
        fault("price\t1;", 1, 5);
        fault("price 1\r;", 1, 7);
        fault("price 1;\0", 1, 8);
        fault("price 1;\u00ff", 1, 8);
        fault("price 1;\u0080", 1, 8);
        for (char c : ",.:!?[]{}&|^%#@_'\"\\~`ABZ\u001f\u007f".toCharArray()) {
            fault("price " + c, 1, 6);
        }
        fault("Price 1;", 1, 0);
        fault("price 1234567;", 1, 6);
        fault("price 0000000;", 1, 6);
        fault("price 1a;", 1, 6);
        fault("price 12price", 1, 6);
        fault("when 1price 2;", 1, 5);
        fault("price 123456z;", 1, 6);
        fault("price abcdefghi;", 1, 6);
        fault("pricepricepric 1;", 1, 0);
        fault("price waywaywayway;", 1, 6);
        fault("price 1 + 1234567;", 1, 10);
        // What is no TOKEN is so, whatever could stand there.
        fault("price --------$", 1, 14);
        fault("price 1 2222222", 1, 8);
        fault("pricepricepric", 1, 0);
        // The first by its place.
        fault("price ; $", 2, 6);
        fault("price x $", 3, 6);
    }

    private static void cannotStand() {
        fault("price", 2, 5);
        fault("price  ", 2, 7);
        fault("price 1", 2, 7);
        fault("price 1 ", 2, 8);
        fault("when 1;", 2, 6);
        fault("when 1", 2, 6);
        fault("when", 2, 4);
        fault("when price 1;", 2, 5);
        fault("price ;", 2, 6);
        fault("price 1;;", 2, 8);
        fault(";", 2, 0);
        fault("1;", 2, 0);
        fault("pric 1;", 2, 0);
        fault("way 1;", 2, 0);
        fault("price 1 when 2;", 2, 8);
        fault("when 1 when 2 price 3;", 2, 7);
        fault("when 1 price 2 price 3;", 2, 15);
        fault("price 1<2<3;", 2, 9);
        fault("price 1=2>3;", 2, 9);
        fault("price (1;", 2, 8);
        fault("price 1);", 2, 7);
        fault("price ();", 2, 7);
        fault("price 1 2;", 2, 8);
        fault("price 1 way;", 2, 8);
        fault("price 1 zzz;", 2, 8);
        fault("price way way;", 2, 10);
        fault("price way1;", 2, 9);
        fault("price 1+;", 2, 8);
        fault("price +1;", 2, 6);
        fault("price *1;", 2, 6);
        fault("price 1 or;", 2, 10);
        fault("price or 1;", 2, 6);
        fault("price and;", 2, 6);
        fault("price not;", 2, 9);
        fault("price 1 not 2;", 2, 8);
        fault("price 1 + not 2;", 2, 10);
        fault("price 1 < not 2;", 2, 10);
        fault("price - not 2;", 2, 8);
        fault("price 1 and and 2;", 2, 12);
        fault("price when;", 2, 6);
        fault("price price;", 2, 6);
        fault("price (1 price 2);", 2, 9);
        fault("when (1 price 2;", 2, 8);
        fault("price 1/*2;", 2, 8);
    }

    private static void noSuchName() {
        fault("price x;", 3, 6);
        fault("price kin;", 3, 6);
        fault("price kinds;", 3, 6);
        fault("price horse;", 3, 6);
        fault("price abcdefgh;", 3, 6);
        fault("price horseses;", 3, 6);
        fault("when late > y price 1;", 3, 12);
        fault("price wait + ways", 3, 13);
        fault("price orr;", 3, 6);
        fault("price x1;", 3, 6);
        fault("price nota;", 3, 6);
        // A place can have but one FAULT, the least.
        fault("price --------x;", 2, 14);
        fault("price 1;x", 2, 8);
    }

    private static void elevenLines() {
        String ten = "price 1;".repeat(10);
        CarriageHire x = new CarriageHire();
        Due.is("23: ten lines", Due.prices(x, ten), 10);
        fault(ten + " price 1;", 2, 81);
        fault(ten + "when 1 price 1;", 2, 80);
        fault(ten + "when x", 2, 80);
        fault(ten + ";", 2, 80);
        fault(ten + "7", 2, 80);
        fault(ten + "x", 2, 80);
        fault(ten + "  $", 1, 82);
        fault(ten + "    ", 0, NONE);
        Due.is("23: ten lines with when", Due.prices(x, "when 1 price 1;".repeat(10)), 10);
    }

    private static void aHundredOperands() {
        String hundred = "price 1" + "+way".repeat(49) + ";price 1" + "+1".repeat(49);
        fault(hundred + ";", 0, NONE);
        int end = hundred.length();
        fault(hundred + "+1;", 2, end + 1);
        fault(hundred + "+way;", 2, end + 1);
        fault(hundred + "+zzz;", 2, end + 1);
        fault(hundred + "+ -1;", 2, end + 3);
        fault(hundred + "+$;", 1, end + 1);
        fault(hundred + ";price 1;", 2, end + 7);
        fault(hundred + ";when 1;", 2, end + 6);
        CarriageHire x = new CarriageHire();
        Due.is("23: a hundred each time", Due.prices(x, hundred + ";"), 2);
        Due.is("23: a hundred each time", Due.prices(x, "price 1" + "+1".repeat(99) + ";"), 1);
        x.job(0, 0, 0, 0, 0, 1);
        Due.is("25: a hundred", x.price(0, 0), 100);
    }

    private static void eightWithin() {
        fault("price -------1;", 0, NONE);
        fault("price --------1;", 2, 14);
        fault("price (((((((1)))))));", 0, NONE);
        fault("price ((((((((1))))))));", 2, 14);
        fault("price " + "not ".repeat(7) + "1;", 0, NONE);
        fault("price " + "not ".repeat(8) + "1;", 2, 38);
        fault("price not(-(not(-1)));", 0, NONE);
        fault("price not(-(not(-(1))));", 2, 18);
        fault("price not(-(not(--1)));", 2, 18);
        fault("price not(-(not(not -1)));", 2, 21);
        fault("price -(-(-(-1)));", 0, NONE);
        fault("price -(-(-(-(1))));", 2, 14);
        fault("price not not not not ---1;", 0, NONE);
        fault("price not not not not ----1;", 2, 26);
        fault("price ((((((((", 2, 14);
        fault("price (((((((())))))));", 2, 14);
        fault("price --------;", 2, 14);
        fault("price not not not not not not not not;", 2, 37);
        fault("price (((((((not 1)))))));", 2, 17);
        fault("price (((((((-1)))))));", 2, 14);
        // What stands beside is not within.
        fault("price -------1+-------1*-------1<-------1 and -------1;", 0, NONE);
        fault("price " + "not ".repeat(7) + "1 or " + "not ".repeat(7) + "1;", 0, NONE);
        fault("when (((((((1))))))) price (((((((1)))))));", 0, NONE);
        fault("price not ------1 + ------1;", 0, NONE);
        fault("price not ------1 + -------1;", 2, 27);
        fault("price (((1))) + --------1;", 2, 24);
    }

    private static void values() {
        value("0", 0);
        value("007", 7);
        value("999999", 999999);
        value("1+2*3", 7);
        value("(1+2)*3", 9);
        value("10-4-3", 3);
        value("10-(4-3)", 9);
        value("100/7/2", 7);
        value("7/2*2", 6);
        value("2*7/2", 7);
        value("7/-2", -3);
        value("-7/2", -3);
        value("-7/-2", 3);
        value("5/0", 0);
        value("5/0+3", 3);
        value("0/0", 0);
        value("5/(1-1)", 0);
        value("--5", 5);
        value("1--1", 2);
        value("-2*-3", 6);
        value("-(2+3)", -5);
        value("1<2", 1);
        value("2<2", 0);
        value("2>1", 1);
        value("2>2", 0);
        value("2=2", 1);
        value("2=3", 0);
        value("-1<0", 1);
        value("1+1=2", 1);
        value("1=2-1", 1);
        value("(1<2)+(2<3)", 2);
        value("not 0", 1);
        value("not 1", 0);
        value("not -5", 0);
        value("not not 7", 1);
        value("not 1<2", 0);
        value("not 1=2", 1);
        value("(not 1)=0", 1);
        value("5 and 3", 1);
        value("5 and 0", 0);
        value("0 and 3", 0);
        value("5 or 0", 1);
        value("0 or 3", 1);
        value("0 or 0", 0);
        value("-1 or 0", 1);
        value("2 and 4", 1);
        value("1 or 1 and 0", 1);
        value("(1 or 1) and 0", 0);
        value("0 and 1 or 1", 1);
        value("0 and (1 or 1)", 0);
        value("not 1 or 1", 1);
        value("not (1 or 1)", 0);
        value("(5 or 0)*9", 9);
        value("999999*999999", 999999 * 999999);
        value("999999*999999*999999", 999999 * 999999 * 999999);
        value("65536*32768", Integer.MIN_VALUE);
        value("-(65536*32768)", Integer.MIN_VALUE);
        value("65536*32768/-1", Integer.MIN_VALUE);
        value("65536*32768-1", Integer.MAX_VALUE);
        value("65536*65536", 0);
        value("65536*32768<0", 1);
        value("1+(2*(3-(4/(5-(6*(7))))))", 1 + 2 * 3);
        value("0 or 0 and 0 or 1=1+2*3-6", 1);
    }

    private static void names() {
        CarriageHire x = new CarriageHire();
        x.way(3, 5, 44);
        String[] name = {"kind", "way", "wait", "begin", "horses", "late"};
        int[] due = {2, 44, 55, 66, 4, 77};
        for (int n = 0; n < name.length; n++) {
            Due.prices(x, "price " + name[n] + ";");
            x.job(2, 3, 5, 66, 55, 4);
            Due.is("25: " + name[n], x.price(n, 77), due[n]);
        }
        x.way(5, 3, 45);
        Due.is("25: way as it is now", x.price(1, 77), 45);
        Due.is("25: late is no part of the JOB", x.price(5, 78), 78);
        Due.is("25: late 0", x.price(5, 0), 0);
        Due.is("25: late 1000", x.price(5, 1000), 1000);
    }

    private static void theFirstLineThatHolds() {
        CarriageHire x = new CarriageHire();
        Due.prices(x, "when late>100 price 1;when late>50 price 2;when late=7 or late=8 price 3;");
        x.job(0, 0, 0, 0, 0, 1);
        Due.is("25: the first", x.price(0, 101), 1);
        Due.is("25: the second", x.price(0, 100), 2);
        Due.is("25: the third", x.price(0, 8), 3);
        Due.is("25: none of them", x.price(0, 9), 0);
        Due.prices(x, "when late-5 price 1; price 2; when 1 price 3;");
        x.job(0, 0, 0, 0, 0, 1);
        Due.is("25: a when below 0 is not 0", x.price(1, 4), 1);
        Due.is("25: without a when", x.price(1, 5), 2);
        Due.prices(x, "when 0 price 1;when 1 price 0;price 5;");
        x.job(0, 0, 0, 0, 0, 1);
        Due.is("25: a PRICE of 0 is one", x.price(2, 5), 0);
    }

    private static void bookedUnderThePricesOfThen() {
        CarriageHire x = new CarriageHire();
        x.job(0, 0, 0, 0, 0, 1);
        for (int n = 1; n < 10; n++) {
            Due.is("23: prices()", Due.prices(x, "price " + n + "*10+late;".concat(" price 0;".repeat(n - 1))), n);
            Due.is("10: job", x.job(0, 0, 0, 0, 0, 1), n);
        }
        Due.prices(x, "price 999;");
        Due.prices(x, "");
        for (int n = 0; n < 10; n++) {
            Due.is("25: each by its own", x.price(n, 3), n == 0 ? 0 : 10 * n + 3);
            Due.is("12: each by its own", x.of(n, 3), n);
        }
    }

    private static void priceOfNone() {
        CarriageHire x = new CarriageHire();
        Due.prices(x, "price 9;");
        Due.is("25: no JOB", x.price(0, 0), 0);
        x.job(0, 0, 0, 0, 0, 1);
        int[][] bad = {{1, 0}, {-1, 0}, {10, 0}, {Integer.MAX_VALUE, 0}, {Integer.MIN_VALUE, 0}, {0, -1}, {0, 1001},
            {0, Integer.MAX_VALUE}, {0, Integer.MIN_VALUE}};
        for (int[] b : bad) {
            Due.is("25: price(" + b[0] + ", " + b[1] + ")", x.price(b[0], b[1]), 0);
        }
        x.drop(0);
        Due.is("25: dropped, it is told", x.price(0, 1000), 9);
    }

    private static void fault(String text, int kind, int place) {
        CarriageHire x = new CarriageHire();
        int lines = Due.prices(x, text);
        Due.is("23: '" + text + "' has a FAULT", lines == NONE ? 1 : 0, kind == 0 ? 0 : 1);
        Due.is("24: FAULT of '" + text + "'", x.fault(0), kind);
        Due.is("24: its place in '" + text + "'", x.fault(1), place);
    }

    private static void value(String text, int due) {
        CarriageHire x = new CarriageHire();
        Due.is("23: '" + text + "'", Due.prices(x, "price " + text + ";"), 1);
        x.job(0, 0, 0, 0, 0, 1);
        Due.is("25: " + text, x.price(0, 0), due);
        Due.is("23: when " + text, Due.prices(x, "when " + text + " price 1;price 2;"), 2);
        x.job(0, 0, 0, 0, 0, 1);
        Due.is("25: when " + text, x.price(1, 0), due == 0 ? 2 : 1);
    }
}
