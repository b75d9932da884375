/** Promises 21 to 25 at their bounds: each sentence about the TAPE, PRICES, FAULTS and a PRICE that names one. */
public final class BoundsOfPricesTest {
    private static final int NONE = CarriageHire.NONE;
    private static final int MIN = Integer.MIN_VALUE;
    private static final int MAX = Integer.MAX_VALUE;
    private static final int BLANKS = 0x20202020;
    private static final int NO_TOKEN = 1;
    private static final int CANNOT_STAND = 2;
    private static final int NO_SUCH_NAME = 3;

    private BoundsOfPricesTest() {
    }

    public static void main(String[] args) {
        promise21SixHundredAtMost();
        promise21HighestFirst();
        promise21RefusedDoesNothing();
        promise22FirstBytes();
        promise22RefusedDoesNothing();
        promise23EmptyText();
        promise23FullText();
        promise23EmptyThen();
        promise23PricesStay();
        promise23TenLines();
        promise23HundredNumbersAndNames();
        promise23WithinEightOthers();
        promise23WordsOfEightBytes();
        promise23NumbersOfSixDigits();
        promise23NoLetterBehindADigit();
        promise23EachByte();
        promise23BlanksPartOrNot();
        promise23NoNames();
        promise23EachPartOfTheGrammar();
        promise24What();
        promise24TheLatest();
        promise24TheEnd();
        promise24TheFirstByItsPlace();
        promise24AtOnePlaceTheLeast();
        promise25Limits();
        promise25NoneSuchOrDropped();
        promise25NoLines();
        promise25WhenIsNotZero();
        promise25Wrapping();
        promise25CutAndByZero();
        promise25OneOrZero();
        promise25NamesAtTheirLimits();
        promise25BookedThen();
        Due.finish();
    }

    private static int feedBlanks(CarriageHire x) {
        return x.feed(BLANKS, BLANKS, BLANKS, BLANKS, BLANKS);
    }

    private static String padded(String text, int length) {
        return text + " ".repeat(length - text.length());
    }

    private static void read(String promise, String text, int kind, int place) {
        CarriageHire x = new CarriageHire();
        int lines = Due.prices(x, text);
        Due.is(promise + ": '" + text + "' is read", lines == NONE ? 0 : 1, kind == 0 ? 1 : 0);
        Due.is(promise + ": FAULT of '" + text + "'", x.fault(0), kind);
        Due.is(promise + ": place in '" + text + "'", x.fault(1), place);
    }

    private static void good(String promise, String text) {
        read(promise, text, 0, NONE);
    }

    private static void value(String promise, String text, int due) {
        CarriageHire x = new CarriageHire();
        Due.is(promise + ": '" + text + "'", Due.prices(x, "price " + text + ";"), 1);
        x.job(0, 0, 0, 0, 0, 1);
        Due.is(promise + ": " + text, x.price(0, 0), due);
    }

    private static void promise21SixHundredAtMost() {
        for (int before = 560; before <= 600; before++) {
            CarriageHire x = new CarriageHire();
            for (int n = 0; n < 30; n++) {
                Due.is("21, how many there are", feedBlanks(x), 20 * n + 20);
            }
            x.end(before);
            boolean fits = before <= 580;
            Due.is("21, more than 600: behind " + before, feedBlanks(x), fits ? before + 20 : NONE);
            Due.is("21, nothing comes: behind " + before, x.about(5), fits ? before + 20 : before);
        }
    }

    private static void promise21HighestFirst() {
        CarriageHire x = new CarriageHire();
        x.feed(0x70726963, 0x65206c61, 0x74653b80, MIN, -1);
        Due.is("21, the byte 128 is no TOKEN", x.prices(), NONE);
        Due.is("21, it is the twelfth", x.fault(1), 11);
        x.feed(MIN, 0, 0, 0, 0);
        Due.is("21, the highest of the first", x.prices() == NONE ? x.fault(1) : NONE, 0);
        x.feed(BLANKS, BLANKS, BLANKS, BLANKS, 0x202020ff);
        Due.is("21, the lowest of the last", x.prices() == NONE ? x.fault(1) : NONE, 19);
        feedBlanks(x);
        x.feed(-1, 0, 0, 0, 0);
        Due.is("21, behind those on the TAPE", x.prices() == NONE ? x.fault(1) : NONE, 20);
    }

    private static void promise21RefusedDoesNothing() {
        for (int before : new int[] {581, 600}) {
            Twins twins = new Twins(x -> {
                Twins.makeBusy(x);
                x.end(0);
                Due.type(x, padded("price 7*late; when kind price 8;", before));
            });
            Due.is("21, more than 600", twins.tried.feed(MIN, MAX, 0, -1, 1), NONE);
            Due.is("21, nothing comes", twins.tried.about(5), before);
            twins.areAlike("21, more than 600");
        }
    }

    private static void promise22FirstBytes() {
        CarriageHire x = new CarriageHire();
        Due.is("22, 0 of none", x.end(0), 0);
        Due.is("22, 1 of none", x.end(1), NONE);
        feedBlanks(x);
        Due.is("22, all", x.end(20), 20);
        Due.is("22, not so many", x.end(21), NONE);
        Due.is("22, below 0", x.end(-1), NONE);
        Due.is("22, the least", x.end(MIN), NONE);
        Due.is("22, the most", x.end(MAX), NONE);
        Due.is("22, doing nothing", x.about(5), 20);
        Due.is("22, one less", x.end(19), 19);
        Due.is("22, what was cut is gone", x.end(20), NONE);
        Due.is("22, 0", x.end(0), 0);
        Due.is("22, 0 again", x.end(0), 0);
        Due.is("22, none are left", x.about(5), 0);
        for (int n = 0; n < 30; n++) {
            feedBlanks(x);
        }
        Due.is("22, 601 of 600", x.end(601), NONE);
        Due.is("22, 600 of 600", x.end(600), 600);
        CarriageHire y = new CarriageHire();
        Due.type(y, "price 1;?");
        y.end(8);
        Due.type(y, "price 2;");
        Due.is("22, what was cut is not read", y.prices(), 2);
    }

    private static void promise22RefusedDoesNothing() {
        Twins twins = Twins.busy();
        int length = twins.tried.about(5);
        for (int n : new int[] {length + 1, 600, 601, -1, -length, MIN, MAX}) {
            Due.is("22, not so many, or below 0: " + n, twins.tried.end(n), NONE);
        }
        twins.areAlike("22, not so many, or below 0");
    }

    private static void promise23EmptyText() {
        CarriageHire x = new CarriageHire();
        Due.is("23, no bytes", x.prices(), 0);
        Due.is("24, no FAULT", x.fault(0), 0);
        Due.is("23, one blank", Due.prices(x, " "), 0);
        Due.is("23, one line's end", Due.prices(x, "\n"), 0);
        Due.is("23, a line", Due.prices(x, "price 1;"), 1);
        Due.is("23, no bytes are PRICES, too", x.prices(), 0);
        Due.is("23, no lines stand", x.about(3), 0);
    }

    private static void promise23FullText() {
        good("23, 600 blanks", " ".repeat(600));
        CarriageHire x = new CarriageHire();
        String text = padded("price 1;", 592) + "price 2;";
        Due.is("23, 600 bytes", Due.prices(x, text), 2);
        read("24, the last of 600", padded("price 1;", 599) + "$", NO_TOKEN, 599);
        read("24, the last of 600", padded("price 1", 599) + "2", CANNOT_STAND, 599);
        read("24, the last of 600", padded("price", 599) + "x", NO_SUCH_NAME, 599);
        read("24, behind the last of 600", padded("price 1", 600), CANNOT_STAND, 600);
        read("24, behind the last of 600", padded("price 1;", 595) + "price", CANNOT_STAND, 600);
        good("23, the last of 600", padded("price 1", 599) + ";");
        read("24, a word of 600", "a".repeat(600), NO_TOKEN, 0);
        read("24, digits, 600", "1".repeat(600), NO_TOKEN, 0);
        read("24, signs, 600", "-".repeat(600), CANNOT_STAND, 0);
        read("24, signs, 600", "price " + "(".repeat(594), CANNOT_STAND, 14);
    }

    private static void promise23EmptyThen() {
        CarriageHire x = new CarriageHire();
        for (String text : new String[] {"price 1;", "price", "$", padded("price 1;", 600), padded("$", 600)}) {
            Due.prices(x, text);
            Due.is("23, the TAPE (empty then)", x.about(5), 0);
            Due.is("23, nothing of it is left", x.end(1), NONE);
            Due.is("23, twenty come", feedBlanks(x), 20);
            x.end(0);
        }
    }

    private static void promise23PricesStay() {
        String[] bad = {"$", "price", "price x;", "price 1; price", "price 1;".repeat(11), "price 1;price 2;;"};
        Twins twins = new Twins(x -> {
            Twins.makeBusy(x);
            x.end(0);
            Due.prices(x, "price 3*late; price 4;");
            Due.prices(x, "price 1");
        });
        for (String text : bad) {
            Due.is("23, a FAULT: " + text, Due.prices(twins.tried, text), NONE);
            Due.is("23, the PRICES stay", twins.tried.about(3), 2);
        }
        Due.is("23, the FAULT it had", Due.prices(twins.tried, "price 1"), NONE);
        twins.areAlike("23, a FAULT (the PRICES stay)");
        CarriageHire none = new CarriageHire();
        Due.prices(none, "price");
        Due.is("23, none stay, too", none.about(3), 0);
    }

    private static void promise23TenLines() {
        for (int lines = 0; lines <= 10; lines++) {
            CarriageHire x = new CarriageHire();
            Due.is("23, how many lines", Due.prices(x, "price 1;".repeat(lines)), lines);
            Due.is("23, how many lines stand", x.about(3), lines);
            Due.is("23, with when", Due.prices(x, "when 1 price 1;".repeat(lines)), lines);
        }
        String ten = "when 1 price 1;".repeat(10);
        read("23, an 11th line: at its price", ten + "price 1;", CANNOT_STAND, 150);
        read("23, an 11th line: at its when", ten + "when 1 price 1;", CANNOT_STAND, 150);
        read("23, an 11th line: at its when", ten + "\n\n when", CANNOT_STAND, 153);
        read("23, an 11th line that can't be one", ten + "way", CANNOT_STAND, 150);
        good("23, blanks behind the 10th", ten + " \n ");
    }

    private static void promise23HundredNumbersAndNames() {
        String numbers = "price 1" + "+1".repeat(98);
        good("23, 99", numbers + ";");
        good("23, 100", numbers + "+1;");
        good("23, 100", numbers + "+late;");
        read("23, a 101st NUMBER: at it", numbers + "+1+ 1;", CANNOT_STAND, numbers.length() + 4);
        read("23, a 101st NAME: at it", numbers + "+1+ late;", CANNOT_STAND, numbers.length() + 4);
        read("23, a 101st in another line", numbers + "+1;price 1;", CANNOT_STAND, numbers.length() + 9);
        read("23, a 101st in a when", numbers + "+1;when 1", CANNOT_STAND, numbers.length() + 8);
        read("23, the 100th is no NAME", numbers + "+lat;", NO_SUCH_NAME, numbers.length() + 1);
        read("23, the 101st is no NAME: the least", numbers + "+1+lat;", CANNOT_STAND, numbers.length() + 3);
        read("23, the 101st is no TOKEN: the least", numbers + "+1+1a;", NO_TOKEN, numbers.length() + 3);
        String names = ("when way price " + "way+".repeat(8) + "way;").repeat(10);
        good("23, 100 NAMES in ten lines", names);
        read("23, 101 in ten lines", names.substring(0, names.length() - 1) + "+1;", CANNOT_STAND, names.length());
        CarriageHire x = new CarriageHire();
        Due.prices(x, numbers + "+1;");
        Due.prices(x, numbers + "+1+1;");
        Due.is("23, counted anew each time", Due.prices(x, numbers + "+1;"), 1);
        x.job(0, 0, 0, 0, 0, 1);
        Due.is("25, all 100", x.price(0, 0), 100);
        String nested = "price " + "1-(1+".repeat(7) + "1" + "*1".repeat(85) + ")".repeat(7) + ";";
        Due.is("23, 100, the last ones first", Due.prices(x, nested), 1);
        x.job(0, 0, 0, 0, 0, 1);
        Due.is("25, seven times the other sign", x.price(1, 0), -1);
    }

    private static void promise23WithinEightOthers() {
        String[] open = {"-", "(", "not "};
        String[] shut = {"", ")", ""};
        for (int n = 0; n < open.length; n++) {
            String seven = "price " + open[n].repeat(7);
            good("23, within 7", seven + "1" + shut[n].repeat(7) + ";");
            String eight = seven + open[n];
            read("23, within 8: at it", eight + "1" + shut[n].repeat(8) + ";", CANNOT_STAND, eight.length());
            read("23, within 8: at it, behind blanks", eight + " \n late;", CANNOT_STAND, eight.length() + 3);
            read("23, within 8, no NAME: the least", eight + "x", CANNOT_STAND, eight.length());
            read("23, within 8, no TOKEN: the least", eight + "$", NO_TOKEN, eight.length());
            read("23, within 8: what opens more", eight + open[n] + "1", CANNOT_STAND, eight.length());
            read("23, within 8: the end", eight.trim(), CANNOT_STAND, eight.trim().length());
            good("23, within 7 in a when", seven.replace("price", "when") + "1" + shut[n].repeat(7) + " price 1;");
            read("23, within 8 in a when", eight.replace("price", "when") + "1", CANNOT_STAND, eight.length() - 1);
        }
        good("23, within 7 of all kinds", "price not not ((-(-1)));");
        read("23, within 8 of all kinds", "price not not ((-(--1)));", CANNOT_STAND, 20);
        good("23, beside one another", "price " + "-------1+(((((((1)))))))*".repeat(3) + "1;");
        good("23, anew behind or, and, ;", "price " + "not ".repeat(7) + "1 or " + "not ".repeat(7) + "1 and "
                + "not ".repeat(7) + "1; when " + "not ".repeat(7) + "1 price -------1;");
        good("23, both sides of a sign", "price not -(-(-(1<2)+-1)=-1);");
        read("23, the e in ( ) counts for all in it", "price (((((((1+-1)))))));", CANNOT_STAND, 16);
        good("23, but not for what is behind", "price ((((((1+-1))))))+-------1;");
        read("23, not counts for each unit of its one", "price not -1+1*-------1;", CANNOT_STAND, 22);
        good("23, not is over behind and", "price not 1 and -------1;");
    }

    private static void promise23WordsOfEightBytes() {
        for (int length = 1; length <= 20; length++) {
            String word = "q".repeat(length);
            int kind = length <= 8 ? NO_SUCH_NAME : NO_TOKEN;
            read("23, words (8 bytes at most)", "price " + word + ";", kind, 6);
            read("23, words (8 bytes at most)", word, length <= 8 ? CANNOT_STAND : NO_TOKEN, 0);
        }
        // These end, or wrap, like a word that there is.
        for (String word : new String[] {"qqqqqqqqlate", "qqqqqqqqqqqqlate", "lateqqqqqqqq", "wayqqqqqq"}) {
            read("23, more than 8 bytes", "price " + word + ";", NO_TOKEN, 6);
        }
        read("23, as long as can be", "price latelate;", NO_SUCH_NAME, 6);
        read("23, as long as can be", "pricelate;", NO_TOKEN, 0);
        read("23, as long as can be", "pricew;", CANNOT_STAND, 0);
        read("23, a and z", "price az;", NO_SUCH_NAME, 6);
        read("23, a and z", "price a`;", NO_SUCH_NAME, 6);
        read("23, ahead of a", "price `;", NO_TOKEN, 6);
        read("23, behind z", "price {;", NO_TOKEN, 6);
    }

    private static void promise23NumbersOfSixDigits() {
        for (int length = 1; length <= 14; length++) {
            for (String digit : new String[] {"0", "9"}) {
                String number = digit.repeat(length);
                read("23, NUMBERS (1 to 6 digits)", "price " + number + ";", length <= 6 ? 0 : NO_TOKEN,
                        length <= 6 ? NONE : 6);
            }
        }
        value("25, one digit", "9", 9);
        value("25, six digits", "999999", 999999);
        value("25, six digits", "000000", 0);
        value("25, six digits", "000019", 19);
        read("23, seven that wrap to few", "price 4294967297;", NO_TOKEN, 6);
        read("23, parted by a blank", "price 123456 7;", CANNOT_STAND, 13);
        read("23, ahead of 0 and behind 9", "price 0/;", CANNOT_STAND, 8);
        read("23, ahead of 0 and behind 9", "price 9:;", NO_TOKEN, 7);
    }

    private static void promise23NoLetterBehindADigit() {
        for (char letter = 'a'; letter <= 'z'; letter++) {
            read("23, no letter directly behind a digit", "price 1" + letter, NO_TOKEN, 6);
            read("23, no letter directly behind a digit", "price 123456" + letter, NO_TOKEN, 6);
        }
        read("23, a word behind a digit", "when 1price 1;", NO_TOKEN, 5);
        read("23, a word behind a digit", "price 1or 1;", NO_TOKEN, 6);
        good("23, a blank between", "price 1 or 1;");
        good("23, a line's end between", "when 1\nprice 1;");
        good("23, a digit behind a letter", "when1 price2 or3 and4;");
        read("23, a digit behind a NAME is one more TOKEN", "price way1;", CANNOT_STAND, 9);
        read("23, the text's last letter", "price 1z", NO_TOKEN, 6);
        good("23, cut ahead of the letter", "price 1;");
        CarriageHire x = new CarriageHire();
        Due.type(x, "price 1z");
        x.end(7);
        Due.is("24, a letter that is cut off", x.prices() == NONE ? x.fault(0) : 0, CANNOT_STAND);
    }

    private static void promise23EachByte() {
        for (int code = 0; code < 256; code++) {
            String is = String.valueOf((char) code);
            boolean blank = code == 32 || code == 10;
            boolean word = code >= 'a' && code <= 'z';
            boolean digit = code >= '0' && code <= '9';
            boolean sign = code > 0 && ";<>=+-*/()".contains(is);
            int kind = blank ? 0 : word || digit || sign ? CANNOT_STAND : NO_TOKEN;
            read("23, the byte " + code + " behind a line", "price 1;" + is, kind, blank ? NONE : 8);
            int unit = digit ? 0 : word ? NO_SUCH_NAME : kind;
            boolean opens = is.equals("(") || is.equals("-") || blank;
            int place = digit ? NONE : opens ? 7 : 6;
            read("23, the byte " + code + " as a unit", "price " + is + ";", opens ? CANNOT_STAND : unit, place);
            boolean joins = sign && !is.equals("(") && !is.equals(")") && !is.equals(";");
            if (joins || digit || blank) {
                good("23, the byte " + code + " between", "price 1" + is + (blank ? ";" : "1;"));
            } else if (!is.equals(";")) {
                int behind = word || !sign ? NO_TOKEN : CANNOT_STAND;
                read("23, the byte " + code + " behind a digit", "price 1" + is, behind, word ? 6 : 7);
            }
        }
    }

    private static void promise23BlanksPartOrNot() {
        good("23, none", "when(1)price(1);price(2);");
        good("23, many", "  \n\n when \n ( \n 1 ) \n price \n\n - \n 1 \n ; \n");
        read("23, inside a word", "pri ce 1;", CANNOT_STAND, 0);
        read("23, inside a NUMBER", "price 1 1;", CANNOT_STAND, 8);
        for (char c : new char[] {0, 9, 11, 12, 13, 31, 33, 127, 160}) {
            read("23, blanks are 32 and 10 alone: " + (int) c, "price" + c + "1;", NO_TOKEN, 5);
        }
    }

    private static void promise23NoNames() {
        for (String word : new String[] {"when", "price", "or", "and"}) {
            read("23, no NAMES: " + word, "price " + word + ";", CANNOT_STAND, 6);
            read("23, no NAMES: " + word, "price 1+" + word + ";", CANNOT_STAND, 8);
            read("23, a letter more: " + word, "price " + word + "s;", NO_SUCH_NAME, 6);
        }
        read("23, no NAMES: not", "price not;", CANNOT_STAND, 9);
        read("23, no NAMES: not", "price 1+not;", CANNOT_STAND, 8);
        for (String name : new String[] {"kind", "way", "wait", "begin", "horses", "late"}) {
            good("23, NAMES: " + name, "price " + name + ";");
            good("23, NAMES: " + name, "when " + name + " price -" + name + "*(" + name + ");");
            read("23, a letter more: " + name, "price " + name + "s;", NO_SUCH_NAME, 6);
            read("23, a letter ahead: " + name, "price a" + name + ";", NO_SUCH_NAME, 6);
            read("23, a letter less: " + name, "price " + name.substring(1) + ";", NO_SUCH_NAME, 6);
            read("23, a letter less: " + name, "price " + name.substring(0, name.length() - 1) + ";", NO_SUCH_NAME, 6);
            read("23, a line by a NAME: " + name, name + ";", CANNOT_STAND, 0);
        }
    }

    private static void promise23EachPartOfTheGrammar() {
        good("23, [when e]: without", "price 1;");
        good("23, [when e]: with", "when 1 price 1;");
        read("23, [when e]: twice", "when 1 when 1 price 1;", CANNOT_STAND, 7);
        read("23, when without its e", "when price 1;", CANNOT_STAND, 5);
        read("23, when without price", "when 1;", CANNOT_STAND, 6);
        read("23, price without its e", "price;", CANNOT_STAND, 5);
        read("23, without ;", "price 1 price 2;", CANNOT_STAND, 8);
        read("23, ; alone", ";", CANNOT_STAND, 0);
        good("23, {or both}: many", "price 1" + " or 1".repeat(50) + ";");
        good("23, {and one}: many", "price 1" + " and 1".repeat(50) + ";");
        good("23, {( * | / ) unit}: many", "price 1" + "*1/1".repeat(49) + ";");
        good("23, [< | > | =]: once", "price 1<1 and 1>1 or 1=1;");
        for (String sign : new String[] {"<", ">", "="}) {
            read("23, [< | > | =]: twice", "price 1<1" + sign + "1;", CANNOT_STAND, 9);
            read("23, nothing on the left", "price " + sign + "1;", CANNOT_STAND, 6);
            read("23, nothing on the right", "price 1" + sign + ";", CANNOT_STAND, 8);
            read("23, not on the right", "price 1" + sign + "not 1;", CANNOT_STAND, 8);
            good("23, in ( ) on the right", "price 1" + sign + "(1" + sign + "1);");
        }
        for (String sign : new String[] {"+", "*", "/"}) {
            read("23, nothing on the left", "price " + sign + "1;", CANNOT_STAND, 6);
            read("23, nothing on the right", "price 1" + sign + ";", CANNOT_STAND, 8);
            read("23, two of them", "price 1" + sign + "+1;", CANNOT_STAND, 8);
            good("23, the - of a unit behind it", "price 1" + sign + "-1;");
        }
        read("23, ( ) with nothing", "price ();", CANNOT_STAND, 7);
        read("23, ( without )", "price (1;", CANNOT_STAND, 8);
        read("23, ) without (", "price 1);", CANNOT_STAND, 7);
        read("23, one ) too many", "price (1));", CANNOT_STAND, 9);
        read("23, ( ) across price", "when (1 price 1);", CANNOT_STAND, 8);
        read("23, - of nothing", "price -;", CANNOT_STAND, 7);
        read("23, - of not", "price -not 1;", CANNOT_STAND, 7);
    }

    private static void promise24What() {
        CarriageHire x = new CarriageHire();
        Due.is("24, no prices() yet", x.fault(0), 0);
        Due.is("24, no prices() yet", x.fault(1), NONE);
        Due.prices(x, "price 1; $");
        Due.is("24, what 0", x.fault(0), NO_TOKEN);
        Due.is("24, what 1", x.fault(1), 9);
        for (int what : new int[] {-1, 2, 3, 256, 65537, MIN, MAX}) {
            Due.is("24, another what: " + what, x.fault(what), NONE);
        }
    }

    private static void promise24TheLatest() {
        CarriageHire x = new CarriageHire();
        String[] texts = {"$", "price 1;", "price", "price  x;", "", "price 1;  x"};
        int[] kinds = {NO_TOKEN, 0, CANNOT_STAND, NO_SUCH_NAME, 0, CANNOT_STAND};
        int[] places = {0, NONE, 5, 7, NONE, 10};
        for (int n = 0; n < texts.length; n++) {
            Due.prices(x, texts[n]);
            Due.type(x, "?");
            Due.is("24, of the latest prices(): FAULT of " + texts[n], x.fault(0), kinds[n]);
            Due.is("24, of the latest prices(): place in " + texts[n], x.fault(1), places[n]);
            x.end(0);
            Due.is("24, the TAPE is no part of it", x.fault(1), places[n]);
        }
    }

    private static void promise24TheEnd() {
        String[] cut = {"price", "price ", "price 1", "price 1 \n", "price (", "price (1", "price -", "price not",
            "price 1+", "price 1<", "price 1 or", "price 1 and", "when", "when 1", "when 1 price", "price 1; when",
            "price late"};
        for (String text : cut) {
            read("24, the end: the text's length", text, CANNOT_STAND, text.length());
        }
    }

    private static void promise24TheFirstByItsPlace() {
        read("24, 1 ahead of 2", "price $;;", NO_TOKEN, 6);
        read("24, 2 ahead of 1", "price ;$", CANNOT_STAND, 6);
        read("24, 3 ahead of 1", "price x+$", NO_SUCH_NAME, 6);
        read("24, 1 ahead of 3", "price $+x", NO_TOKEN, 6);
        read("24, 2 ahead of 3", "price +x", CANNOT_STAND, 6);
        read("24, 3 ahead of 2", "price x++", NO_SUCH_NAME, 6);
        read("24, 3 ahead of 3", "price x+y", NO_SUCH_NAME, 6);
        read("24, in the second line", "price 1; price 1+$;", NO_TOKEN, 17);
        read("24, directly behind a NUMBER", "price 1$", NO_TOKEN, 7);
        read("24, directly behind a word", "price late$", NO_TOKEN, 10);
    }

    private static void promise24AtOnePlaceTheLeast() {
        read("24, 1, not 2", "1234567", NO_TOKEN, 0);
        read("24, 1, not 2", "abcdefghi", NO_TOKEN, 0);
        read("24, 1, not 2", "price 1 1a", NO_TOKEN, 8);
        read("24, 1, not 3", "price abcdefghi", NO_TOKEN, 6);
        read("24, 2, not 3", "abcdefgh", CANNOT_STAND, 0);
        read("24, 2, not 3", "price 1 x", CANNOT_STAND, 8);
        read("24, 2, not 3", "price --------x", CANNOT_STAND, 14);
    }

    private static CarriageHire priced(String text) {
        CarriageHire x = new CarriageHire();
        Due.prices(x, text);
        x.job(0, 0, 0, 0, 0, 1);
        return x;
    }

    private static void promise25Limits() {
        Limits.are("25, LATE (0 .. 1000)", 0, 1000, v -> priced("price 7;").price(0, v), 7, 0);
        CarriageHire x = priced("price late+1;");
        for (int late : new int[] {0, 1, 999, 1000}) {
            Due.is("25, LATE by " + late, x.price(0, late), late + 1);
        }
        for (int late : new int[] {-1, 1001, MIN, MAX}) {
            Due.is("25, it can't be: " + late, x.price(0, late), 0);
        }
    }

    private static void promise25NoneSuchOrDropped() {
        CarriageHire x = new CarriageHire();
        Due.prices(x, "price 7;");
        Due.is("25, none at all", x.price(0, 0), 0);
        x.job(0, 0, 0, 0, 0, 1);
        x.job(0, 0, 0, 0, 0, 1);
        for (int job : new int[] {-1, 2, 9, 10, 32, MIN, MAX}) {
            Due.is("25, none such: " + job, x.price(job, 0), 0);
        }
        x.drop(0);
        Due.is("25, also of one that is dropped", x.price(0, 0), 7);
        Due.is("25, it can't be of one that is dropped", x.price(0, 1001), 0);
        Due.is("25, the last one", x.price(1, 0), 7);
    }

    private static void promise25NoLines() {
        CarriageHire x = new CarriageHire();
        x.job(2, 0, 1, 100, 30, 4);
        Due.is("25, at first none: no lines", x.price(0, 1000), 0);
        Due.is("25, 0 without one", priced("when 0 price 5; when 1=2 price 6;").price(0, 0), 0);
        Due.is("25, 0 without one, of ten", priced("when 0 price 5;".repeat(10)).price(0, 0), 0);
        Due.is("25, the tenth", priced("when 0 price 5;".repeat(9) + "price 6;").price(0, 0), 6);
        Due.is("25, the first of ten", priced("price 5;" + "price 6;".repeat(9)).price(0, 0), 5);
    }

    private static void promise25WhenIsNotZero() {
        Due.is("25, when 0", priced("when 0 price 5; price 6;").price(0, 0), 6);
        Due.is("25, when 1", priced("when 1 price 5; price 6;").price(0, 0), 5);
        Due.is("25, when 2", priced("when 2 price 5; price 6;").price(0, 0), 5);
        Due.is("25, when below 0", priced("when -1 price 5; price 6;").price(0, 0), 5);
        Due.is("25, when the least int", priced("when 65536*32768 price 5; price 6;").price(0, 0), 5);
        Due.is("25, when it wraps to 0", priced("when 65536*65536 price 5; price 6;").price(0, 0), 6);
        Due.is("25, when by 0", priced("when 1/0 price 5; price 6;").price(0, 0), 6);
        Due.is("25, behind a line of 0", priced("when 0 price 0; price 6;").price(0, 0), 6);
        Due.is("25, behind two lines", priced("when 0 price 1; when 0 price 0; when 1 price 6;").price(0, 0), 6);
        Due.is("25, a PRICE below 0", priced("price -5;").price(0, 0), -5);
        Due.is("25, a PRICE of 0 is one", priced("price 0; price 5;").price(0, 0), 0);
    }

    private static void promise25Wrapping() {
        String least = "65536*32768";
        value("25, wrapping: *", least, MIN);
        value("25, wrapping: * to 0", "65536*65536", 0);
        value("25, wrapping: * beyond", "65536*65537", 65536);
        value("25, wrapping: -", least + "-1", MAX);
        value("25, wrapping: +", "(" + least + "-1)+1", MIN);
        value("25, wrapping: the - of a unit", "-(" + least + ")", MIN);
        value("25, wrapping: /", "65536*32768/-1", MIN);
        value("25, wrapping: -1 * the least", "-1*(" + least + ")", MIN);
        value("25, wrapping: <", least + "<0", 1);
        value("25, wrapping: >", least + "-1>0", 1);
        value("25, no wrapping in <", least + "<" + least + "-1", 1);
        value("25, no wrapping in >", least + ">" + least + "-1", 0);
        value("25, no wrapping in =", least + "=-(" + least + ")", 1);
        value("25, 999999 * 999999", "999999*999999", 999999 * 999999);
    }

    private static void promise25CutAndByZero() {
        value("25, cut: 7/2", "7/2", 3);
        value("25, cut: -7/2", "-7/2", -3);
        value("25, cut: 7/-2", "7/-2", -3);
        value("25, cut: -7/-2", "-7/-2", 3);
        value("25, cut: 1/2", "1/2", 0);
        value("25, cut: -1/2", "-1/2", 0);
        value("25, by 0", "5/0", 0);
        value("25, by 0: 0", "0/0", 0);
        value("25, by 0: the least int", "65536*32768/0", 0);
        value("25, by 0 in the middle", "5/0/3+4", 4);
        value("25, by what is 0", "5/(2-2)+1", 1);
        value("25, by what wraps to 0", "5/(65536*65536)", 0);
        value("25, from left to right", "100/10/5", 2);
        value("25, from left to right", "10-5-3", 2);
    }

    private static void promise25OneOrZero() {
        String[] texts = {"1<2", "2<2", "3<2", "1>2", "2>2", "3>2", "1=2", "2=2", "3=2", "not 0", "not 1", "not 2",
            "not -1", "0 and 0", "0 and 5", "5 and 0", "5 and 6", "5 and -6", "0 or 0", "0 or 5", "5 or 0", "5 or 6",
            "-5 or 0", "1 and 2 and 4", "1 and 2 and 0", "0 or 0 or 8", "2 and 4"};
        int[] due = {1, 0, 0, 0, 0, 1, 0, 1, 0, 1, 0, 0, 0, 0, 0, 0, 1, 1, 0, 1, 1, 1, 1, 1, 0, 1, 1};
        for (int n = 0; n < texts.length; n++) {
            value("25, 1 or 0", texts[n], due[n]);
            value("25, 1 or 0, in ( )", "3*(" + texts[n] + ")", 3 * due[n]);
        }
    }

    private static void promise25NamesAtTheirLimits() {
        String[] names = {"kind", "way", "wait", "begin", "horses", "late"};
        int[] most = {2, 300, 300, 1400, 4, 1000};
        int[] least = {0, 0, 0, 0, 1, 0};
        for (int n = 0; n < names.length; n++) {
            CarriageHire x = new CarriageHire();
            Due.prices(x, "price " + names[n] + ";");
            x.job(2, 1, 2, 1400, 300, 4);
            x.job(0, 1, 1, 0, 0, 1);
            x.way(1, 2, 300);
            Due.is("25, the most: " + names[n], x.price(0, 1000), most[n]);
            Due.is("25, the least: " + names[n], x.price(1, 0), least[n]);
        }
    }

    private static void promise25BookedThen() {
        CarriageHire x = new CarriageHire();
        x.way(0, 1, 5);
        x.job(0, 0, 1, 0, 0, 1);
        Due.prices(x, "price 10+way;");
        x.job(0, 0, 1, 0, 0, 1);
        Due.prices(x, "price 20+way");
        x.job(0, 0, 1, 0, 0, 1);
        Due.prices(x, "price 30+way;");
        x.job(0, 0, 1, 0, 0, 1);
        Due.prices(x, "");
        x.job(0, 0, 1, 0, 0, 1);
        int[] due = {0, 15, 15, 35, 0};
        for (int n = 0; n < due.length; n++) {
            Due.is("25, the PRICES that stood then: " + n, x.price(n, 0), due[n]);
        }
        x.way(1, 0, 300);
        Due.is("25, way as it is now", x.price(1, 0), 310);
        Due.is("25, way as it is now", x.price(3, 0), 330);
    }
}
