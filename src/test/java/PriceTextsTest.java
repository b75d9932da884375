import java.util.ArrayList;
import java.util.List;
import java.util.Random;

/**
 * Promises 23 to 25 on texts made at random: the values of made-up e's against what they were made of, and the FAULTS
 * of broken texts against a second reader, which goes over the tokens with counters instead of the document's grammar.
 */
public final class PriceTextsTest {
    private static final String[] NAMES = {"kind", "way", "wait", "begin", "horses", "late"};
    private static final String[] SOUP = {"when ", "price ", "or ", "and ", "not ", "kind", "way ", "late", "x", "1", "23 ",
        "456789", "1234567", "7a", "abcdefgh", "abcdefghi", ";", "<", ">", "=", "+", "-", "*", "/", "(", ")", " ", "\n", "$",
        "\u00e9", "price 1;", "when 1 price 2;", "(1)", "-1", "not 1"};

    private final Random random;
    private final int[] values;

    private PriceTextsTest(int seed) {
        random = new Random(seed);
        values = new int[] {random.nextInt(3), random.nextInt(301), random.nextInt(301), random.nextInt(1401),
            1 << random.nextInt(3), random.nextInt(1001)};
    }

    public static void main(String[] args) {
        for (int seed = 0; seed < 1500; seed++) {
            new PriceTextsTest(seed).madeUp();
        }
        for (int seed = 0; seed < 4000; seed++) {
            PriceTextsTest test = new PriceTextsTest(seed);
            test.compareFaults(test.soup());
            test.compareFaults(test.spoilt());
        }
        Due.finish();
    }

    private record Made(String text, int value) {
    }

    private void madeUp() {
        StringBuilder text = new StringBuilder();
        int due = 0;
        boolean found = false;
        int lines = random.nextInt(4);
        for (int n = 0; n < lines; n++) {
            Made when = random.nextBoolean() ? either(2) : null;
            Made price = either(2);
            text.append(when == null ? "" : "when " + when.text + " ").append("price ").append(price.text).append(";\n");
            if (!found && (when == null || when.value != 0)) {
                due = price.value;
                found = true;
            }
        }
        Reader reader = new Reader(text.toString());
        if (text.length() > 600 || reader.kind != 0) {
            return;
        }
        CarriageHire x = new CarriageHire();
        x.way(1, 2, values[1]);
        Due.is("23: " + text, Due.prices(x, text.toString()), lines);
        x.job(values[0], 1, 2, values[3], values[2], values[4]);
        Due.is("25: " + text, x.price(0, values[5]), due);
    }

    private Made either(int deep) {
        Made left = both(deep);
        while (random.nextInt(5) == 0) {
            Made right = both(deep);
            left = new Made(left.text + " or " + right.text, left.value != 0 | right.value != 0 ? 1 : 0);
        }
        return left;
    }

    private Made both(int deep) {
        Made left = one(deep);
        while (random.nextInt(5) == 0) {
            Made right = one(deep);
            left = new Made(left.text + " and " + right.text, left.value != 0 & right.value != 0 ? 1 : 0);
        }
        return left;
    }

    private Made one(int deep) {
        if (random.nextInt(6) == 0) {
            Made inner = one(deep);
            return new Made("not " + inner.text, inner.value == 0 ? 1 : 0);
        }
        Made left = sum(deep);
        if (random.nextInt(3) != 0) {
            return left;
        }
        Made right = random.nextInt(4) == 0 ? left : sum(deep);
        switch (random.nextInt(3)) {
            case 0:
                return new Made(left.text + "<" + right.text, left.value < right.value ? 1 : 0);
            case 1:
                return new Made(left.text + " > " + right.text, left.value > right.value ? 1 : 0);
            default:
                return new Made(left.text + "=" + right.text, left.value == right.value ? 1 : 0);
        }
    }

    private Made sum(int deep) {
        Made left = term(deep);
        while (random.nextInt(3) == 0) {
            Made right = term(deep);
            left = random.nextBoolean() ? new Made(left.text + "+" + right.text, left.value + right.value)
                    : new Made(left.text + "-" + right.text, left.value - right.value);
        }
        return left;
    }

    private Made term(int deep) {
        Made left = unit(deep);
        while (random.nextInt(3) == 0) {
            Made right = unit(deep);
            left = random.nextBoolean() ? new Made(left.text + "*" + right.text, left.value * right.value)
                    : new Made(left.text + "/" + right.text, right.value == 0 ? 0 : left.value / right.value);
        }
        return left;
    }

    private Made unit(int deep) {
        int pick = random.nextInt(8);
        if (pick == 0) {
            Made inner = unit(deep);
            return new Made("-" + inner.text, -inner.value);
        }
        if (pick <= 2 && deep > 0) {
            Made inner = either(deep - 1);
            return new Made("(" + inner.text + ")", inner.value);
        }
        if (pick <= 4) {
            int name = random.nextInt(NAMES.length);
            return new Made(NAMES[name], values[name]);
        }
        int number = random.nextInt(3) == 0 ? random.nextInt(1000000) : random.nextInt(5);
        return new Made(Integer.toString(number), number);
    }

    private String soup() {
        StringBuilder text = new StringBuilder(random.nextBoolean() ? "price " : "");
        int words = random.nextInt(25);
        for (int n = 0; n < words; n++) {
            text.append(SOUP[random.nextInt(SOUP.length)]);
        }
        return text.toString();
    }

    /** A text without a FAULT, or nearly so, with a little taken out, put in or doubled. */
    private String spoilt() {
        StringBuilder text = new StringBuilder();
        int lines = random.nextInt(12);
        for (int n = 0; n < lines && text.length() < 500; n++) {
            text.append(random.nextInt(3) == 0 ? "when " + either(3).text + " " : "").append("price ");
            int nested = random.nextInt(3) == 0 ? random.nextInt(10) : 0;
            StringBuilder close = new StringBuilder();
            boolean mayBeNot = true;
            for (int i = 0; i < nested; i++) {
                int pick = random.nextInt(mayBeNot ? 3 : 2);
                text.append(pick == 0 ? "(" : pick == 1 ? "-" : "not ");
                close.append(pick == 0 ? ")" : "");
                mayBeNot = pick != 1;
            }
            text.append(either(1).text).append(close).append("; ");
        }
        int spoils = random.nextInt(3);
        for (int n = 0; n < spoils && text.length() > 0; n++) {
            int at = random.nextInt(text.length());
            int pick = random.nextInt(3);
            if (pick == 0) {
                text.deleteCharAt(at);
            } else {
                text.insert(at, pick == 1 ? SOUP[random.nextInt(SOUP.length)] : text.substring(at, at + 1));
            }
        }
        return text.length() > 600 ? text.substring(0, 600) : text.toString();
    }

    private void compareFaults(String text) {
        Reader reader = new Reader(text);
        CarriageHire x = new CarriageHire();
        Due.is("23: '" + text + "'", Due.prices(x, text), reader.kind == 0 ? reader.lines : CarriageHire.NONE);
        Due.is("24: FAULT of '" + text + "'", x.fault(0), reader.kind);
        Due.is("24: its place in '" + text + "'", x.fault(1), reader.place);
    }

    /** Finds the FAULT of a text: all tokens first, then one pass with a list of the ( ) that stand open. */
    private static final class Reader {
        private final List<String> tokens = new ArrayList<>();
        private final List<Integer> places = new ArrayList<>();
        private int kind = 0;
        private int place = CarriageHire.NONE;
        private int lines = 0;

        // How far all that is open goes: the e of the innermost ( ), the nots ahead of its one, the minuses of its unit.
        private final List<int[]> outer = new ArrayList<>();
        private int base = 0;
        private int nots = 0;
        private int minuses = 0;
        private boolean compared = false;

        Reader(String text) {
            split(text);
            check();
        }

        private void split(String text) {
            java.util.regex.Matcher m = java.util.regex.Pattern
                    .compile("[ \n]+|([a-z]+)|([0-9]+)([a-z]?)|([;<>=+*/()-])|(.)", java.util.regex.Pattern.DOTALL)
                    .matcher(text);
            int at = 0;
            while (m.find(at)) {
                boolean bad = m.group(5) != null || m.group(1) != null && m.group(1).length() > 8
                        || m.group(2) != null && (m.group(2).length() > 6 || !m.group(3).isEmpty());
                if (bad || !m.group().isBlank()) {
                    tokens.add(bad ? "BAD" : m.group());
                    places.add(m.start());
                }
                if (bad) {
                    return;
                }
                at = m.end();
            }
            tokens.add("END");
            places.add(text.length());
        }

        private void check() {
            // 0: a line begins; 1: a one may begin; 2: a unit must begin; 3: a unit has ended.
            int state = 0;
            boolean inWhen = false;
            int operands = 0;
            for (int n = 0; n < tokens.size() && kind == 0; n++) {
                String t = tokens.get(n);
                place = places.get(n);
                if (t.equals("BAD")) {
                    kind = 1;
                    return;
                }
                if (state == 0) {
                    if (t.equals("END")) {
                        place = CarriageHire.NONE;
                        return;
                    }
                    kind = lines < 10 && (t.equals("when") || t.equals("price")) ? 0 : 2;
                    inWhen = t.equals("when");
                    state = 1;
                    nots = 0;
                    minuses = 0;
                    compared = false;
                } else if (state < 3) {
                    boolean word = t.matches("[a-z]+") && !t.matches("when|price|or|and|not");
                    if (base + nots + minuses >= 8) {
                        kind = 2;
                    } else if (t.matches("[0-9]+") || word) {
                        operands++;
                        kind = operands > 100 ? 2 : word && !List.of(NAMES).contains(t) ? 3 : 0;
                        state = 3;
                        minuses = 0;
                    } else if (t.equals("-")) {
                        minuses++;
                        state = 2;
                    } else if (t.equals("not") && state == 1) {
                        nots++;
                    } else if (t.equals("(")) {
                        outer.add(new int[] {base, nots, compared ? 1 : 0});
                        base = base + nots + minuses + 1;
                        nots = 0;
                        minuses = 0;
                        compared = false;
                        state = 1;
                    } else {
                        kind = 2;
                    }
                } else if (t.matches("[-+*/]")) {
                    state = 2;
                } else if (t.matches("[<>=]") && !compared) {
                    compared = true;
                    state = 2;
                } else if (t.equals("or") || t.equals("and")) {
                    compared = false;
                    nots = 0;
                    state = 1;
                } else if (t.equals(")") && !outer.isEmpty()) {
                    int[] back = outer.remove(outer.size() - 1);
                    base = back[0];
                    nots = back[1];
                    compared = back[2] == 1;
                    minuses = 0;
                } else if (t.equals("price") && outer.isEmpty() && inWhen) {
                    inWhen = false;
                    compared = false;
                    nots = 0;
                    state = 1;
                } else if (t.equals(";") && outer.isEmpty() && !inWhen) {
                    lines++;
                    state = 0;
                } else {
                    kind = 2;
                }
            }
        }
    }
}
