import java.util.function.Supplier;

/** The boundary cases of promises 6 and 7 and of AMOUNTS, each sentence in a test of its own. */
public final class FormulaEdgesTest {
    private static final long FAR = 999999999999L;
    private static final int[] NO_FIELDS = {Integer.MIN_VALUE, -1, Forms.COUNT, 40, Integer.MAX_VALUE};

    public static void main(String[] args) {
        noSuchField();
        boundsOfNumbersAlone();
        boundsNotBeyond();
        boundsTheRightWayRound();
        boundsAtFirst();
        boundsOfTheMaster();
        amountWithoutSigns();
        amountOfOneToNineDigits();
        amountOfOneToThreeDecimals();
        amountOfSignsInTheirPlaces();
        amountOfABox();
        amountsWritten();
        opMinusOneToSeven();
        formulasOfNumbersAlone();
        ofNumbersAndBoxes();
        refusedFormulaLeavesTheOld();
        ofAGroup();
        fieldsThatAreNotNeeded();
        formulaThatItHad();
        whichIsNamedFirst();
        Check.end();
    }

    private static int bounds(FormFields x, int field, long least, long most) {
        x.bounds(field, least, most);
        return 0;
    }

    // "NoSuchElementException: there is no such field."
    private static void noSuchField() {
        for (int field : NO_FIELDS) {
            Probe.allRefused(Check.NO_SUCH, Forms::rich,
                    x -> bounds(x, field, 0, 0), x -> bounds(x, field, 1, 0), x -> x.formula(field, -1, 0, 0),
                    x -> x.formula(field, 8, 0, 0), x -> x.formula(field, 7, 0, 0), x -> x.fails(field, true),
                    x -> x.fails(field, false));
            for (int op = 0; op <= 5; op++) {
                int one = op;
                Probe.allRefused(Check.NO_SUCH, Forms::rich,
                        x -> x.formula(Forms.NUMBER, one, field, Forms.BOX),
                        x -> x.formula(Forms.NUMBER, one, Forms.BOX, field));
            }
            Probe.refused(Check.NO_SUCH, Forms::rich, x -> x.formula(Forms.NUMBER, 6, field, Forms.GROUP));
        }
    }

    // "The least and the greatest AMOUNT that a NUMBER may have"; "IllegalArgumentException: its KIND"
    private static void boundsOfNumbersAlone() {
        for (int kind = 0; kind <= 4; kind++) {
            int field = kind;
            Probe.refused(Check.ARGUMENT, Forms::kinds, x -> bounds(x, field, -1, 1));
        }
        Check.due(0, bounds(Forms.kinds(), Check.NUMBER, -1, 1));
    }

    // "or they are beyond that"
    private static void boundsNotBeyond() {
        long[][] good = {{-FAR, FAR}, {-FAR, -FAR}, {FAR, FAR}, {-FAR + 1, FAR - 1}, {0, 0}};
        for (long[] one : good) {
            Check.due(0, bounds(Forms.one(Check.NUMBER), 0, one[0], one[1]));
        }
        long[][] bad = {{-FAR - 1, 0}, {-FAR - 1, FAR}, {0, FAR + 1}, {-FAR, FAR + 1}, {-FAR - 1, -FAR - 1},
            {FAR + 1, FAR + 1}, {Long.MIN_VALUE, 0}, {0, Long.MAX_VALUE}, {Long.MIN_VALUE, Long.MIN_VALUE},
            {Long.MAX_VALUE, Long.MAX_VALUE}, {Long.MIN_VALUE, Long.MAX_VALUE}};
        for (long[] one : bad) {
            Probe.refused(Check.ARGUMENT, Forms::rich, x -> bounds(x, Forms.NUMBER, one[0], one[1]));
        }
    }

    // "or the wrong way round"
    private static void boundsTheRightWayRound() {
        long[][] bad = {{1, 0}, {0, -1}, {FAR, -FAR}, {FAR, FAR - 1}, {-FAR + 1, -FAR}, {5, 4},
            {Long.MAX_VALUE, Long.MIN_VALUE}};
        for (long[] one : bad) {
            Probe.refused(Check.ARGUMENT, Forms::rich, x -> bounds(x, Forms.NUMBER, one[0], one[1]));
        }
        Check.due(0, bounds(Forms.rich(), Forms.NUMBER, 4, 4));
        Check.due(0, bounds(Forms.rich(), Forms.NUMBER, 4, 5));
    }

    // "(at first 999999999999 either way)"
    private static void boundsAtFirst() {
        Check.due(1, Forms.typed(Check.NUMBER, "999999999.999").validate(0));
        Check.due(1, Forms.typed(Check.NUMBER, "-999999999.999").validate(0));
    }

    private static void boundsOfTheMaster() {
        FormFields x = Forms.typed(Check.NUMBER, "1");
        x.field(-1, Check.NUMBER, 1);
        x.bounds(1, 1001, 2000);
        Check.due(4, x.validate(0));
        x.bounds(0, 0, 999);
        Check.due(5, x.validate(1));
        x.bounds(1, 1000, 1000);
        Check.due(1, x.validate(0));
    }

    /** The SIGNS of the sum of a field and an empty one; "fails" when the first has no AMOUNT. */
    private static String sumWithNothing(int kind, String signs) {
        FormFields x = Forms.one(kind);
        x.field(-1, Check.NUMBER, 2);
        x.field(-1, Check.NUMBER, 3);
        Check.type(x, 0, signs);
        x.formula(2, 0, 0, 1);
        x.calculate();
        return x.failed(-1) == 1 ? "fails" : signsOf(x, 2);
    }

    /** The SIGNS of a master that no earlier field shares its full name with, by its line of the data. */
    private static String signsOf(FormFields x, int line) {
        return Check.data(x).split("\n", -1)[line].split("=", -1)[1];
    }

    // "THE AMOUNT of a NUMBER without SIGNS is 0"
    private static void amountWithoutSigns() {
        Check.due("0", sumWithNothing(Check.NUMBER, ""));
        Check.due("0", sumWithNothing(Check.NUMBER, "0"));
    }

    // "perhaps 45, one to nine digits"
    private static void amountOfOneToNineDigits() {
        for (String minus : new String[] {"", "-"}) {
            for (int digits = 1; digits <= 13; digits++) {
                String signs = minus + "1234567891234".substring(0, digits);
                Check.due(digits <= 9 ? signs : "fails", sumWithNothing(Check.NUMBER, signs));
            }
        }
        Check.due("1", sumWithNothing(Check.NUMBER, "000000001"));
        Check.due("fails", sumWithNothing(Check.NUMBER, "0000000001"));
        Check.due("fails", sumWithNothing(Check.NUMBER, "-"));
        Check.due("0", sumWithNothing(Check.NUMBER, "-0"));
        Check.due("999999999", sumWithNothing(Check.NUMBER, "999999999"));
        Check.due("fails", sumWithNothing(Check.NUMBER, "1000000000"));
        Check.due("fails", sumWithNothing(Check.NUMBER, "1000000000.5"));
    }

    // "perhaps 46 and one to three digits"
    private static void amountOfOneToThreeDecimals() {
        String[][] rows = {{"7", "7"}, {"7.", "fails"}, {"7.1", "7.1"}, {"7.12", "7.12"}, {"7.123", "7.123"},
            {"7.1234", "fails"}, {"7.000", "7"}, {"7.0000", "fails"}, {"-7.", "fails"}, {"-7.123", "-7.123"},
            {"-7.1234", "fails"}, {"123456789.123", "123456789.123"}, {"123456789.", "fails"},
            {"-999999999.999", "-999999999.999"}, {"123456789.1234", "fails"}};
        for (String[] row : rows) {
            Check.due(row[1], sumWithNothing(Check.NUMBER, row[0]));
        }
    }

    // "if they are .. it is that, in thousandths; else it has none"
    private static void amountOfSignsInTheirPlaces() {
        for (String signs : new String[] {".", "-.", ".1", "-.1", "1-", "1.-", "1.1-", "1.-1", "--1", "1.1.1", "..1",
            "1..1", "-1-", "-1.", ".-1", "1-1"}) {
            Check.due("fails", sumWithNothing(Check.NUMBER, signs));
        }
    }

    // "That of a BOX is 1000 times its value."
    private static void amountOfABox() {
        FormFields x = Forms.one(Check.BOX);
        x.field(-1, Check.NUMBER, 2);
        x.formula(1, 0, 0, 0);
        Check.due(1, x.calculate());
        Check.due("0", signsOf(x, 1));
        x.value(0, 1);
        Check.due(1, x.calculate());
        Check.due("2", signsOf(x, 1));
    }

    // "45 if below 0, the digits of the whole part, and, if there is more, 46 and up to three digits,
    // without 48 at the end"
    private static void amountsWritten() {
        Object[][] rows = {{0, "0"}, {1, "0.001"}, {-1, "-0.001"}, {9, "0.009"}, {10, "0.01"}, {-10, "-0.01"},
            {11, "0.011"}, {99, "0.099"}, {100, "0.1"}, {101, "0.101"}, {110, "0.11"}, {999, "0.999"}, {1000, "1"},
            {-999, "-0.999"}, {-1000, "-1"}, {1001, "1.001"}, {1010, "1.01"}, {1100, "1.1"}, {9999, "9.999"},
            {10000, "10"}, {100000, "100"}, {1000000, "1000"}, {-100100, "-100.1"}, {2147483647, "2147483.647"},
            {-2147483648, "-2147483.648"}};
        for (Object[] row : rows) {
            FormFields x = Forms.one(Check.NUMBER);
            x.formula(0, 7, (int) row[0], 0);
            Check.due(1, x.calculate());
            Check.due((String) row[1], signsOf(x, 0));
        }
    }

    // "(op = -1: none)"; "IllegalArgumentException: .. or op"
    private static void opMinusOneToSeven() {
        for (int op : new int[] {Integer.MIN_VALUE, -3, -2, 8, 9, Integer.MAX_VALUE}) {
            Probe.refused(Check.ARGUMENT, Forms::rich, x -> x.formula(Forms.RESULT, op, Forms.NUMBER, Forms.NUMBER));
            Probe.refused(Check.ARGUMENT, Forms::rich, x -> x.formula(Forms.NUMBER, op, Forms.NUMBER, Forms.NUMBER));
        }
        for (int op = -1; op <= 7; op++) {
            int a = op == 6 ? Forms.GROUP : Forms.BOX;
            Check.due(0, Forms.rich().formula(Forms.NUMBER, op, a, Forms.BOX));
            Check.due(1, Forms.rich().formula(Forms.RESULT, op, a, Forms.BOX));
        }
    }

    // "A NUMBER gets a FORMULA"; "IllegalArgumentException: KINDS"
    private static void formulasOfNumbersAlone() {
        for (int kind = 0; kind <= 4; kind++) {
            int field = kind;
            for (int op = -1; op <= 7; op++) {
                int one = op;
                int a = op == 6 ? Check.GROUP : Check.NUMBER;
                Probe.refused(Check.ARGUMENT, Forms::kinds, x -> x.formula(field, one, a, Check.NUMBER));
            }
        }
    }

    // "with a and b fields that are NUMBERS or BOXES"
    private static void ofNumbersAndBoxes() {
        for (int op = 0; op <= 5; op++) {
            int one = op;
            for (int kind = 0; kind <= 5; kind++) {
                int field = kind;
                if (kind == Check.BOX || kind == Check.NUMBER) {
                    Check.due(0, Forms.kinds().formula(Check.NUMBER, op, kind, Check.BOX));
                    Check.due(0, Forms.kinds().formula(Check.NUMBER, op, Check.BOX, kind));
                } else {
                    Probe.allRefused(Check.ARGUMENT, Forms::kinds,
                            x -> x.formula(Check.NUMBER, one, field, Check.BOX),
                            x -> x.formula(Check.NUMBER, one, Check.BOX, field));
                }
            }
        }
    }

    /** A refused formula leaves the one that is there. */
    private static void refusedFormulaLeavesTheOld() {
        for (int op = 0; op <= 6; op++) {
            int one = op;
            for (int field : new int[] {op == 6 ? Forms.BOX : Forms.GROUP, Forms.CELLED, Forms.RADIO, Forms.CHOICE}) {
                Probe.refused(Check.ARGUMENT, Forms::rich, x -> x.formula(Forms.RESULT, one, field, Forms.BOX));
                if (op < 6) {
                    Probe.refused(Check.ARGUMENT, Forms::rich, x -> x.formula(Forms.RESULT, one, Forms.BOX, field));
                }
            }
        }
    }

    // "6 the sum of all NUMBERS in GROUP a"
    private static void ofAGroup() {
        for (int kind = 1; kind <= 5; kind++) {
            int field = kind;
            Probe.refused(Check.ARGUMENT, Forms::kinds, x -> x.formula(Check.NUMBER, 6, field, Check.GROUP));
        }
        Check.due(0, Forms.kinds().formula(Check.NUMBER, 6, Check.GROUP, Check.TEXT));
    }

    // "(field; a, b of ops 0 to 5, a of op 6)": what is not of these may be anything
    private static void fieldsThatAreNotNeeded() {
        for (int any : new int[] {Integer.MIN_VALUE, -1, 0, 1, 6, 40, Integer.MAX_VALUE}) {
            Check.due(0, Forms.kinds().formula(Check.NUMBER, -1, any, any));
            Check.due(0, Forms.kinds().formula(Check.NUMBER, 6, Check.GROUP, any));
            FormFields x = Forms.kinds();
            Check.due(0, x.formula(Check.NUMBER, 7, any, any));
            Check.due(1, x.calculate());
        }
    }

    // "in place of the one that it had (op = -1: none): 1 if it had one, else 0"
    private static void formulaThatItHad() {
        FormFields x = Forms.one(Check.NUMBER);
        x.field(-1, Check.NUMBER, 1);
        Check.due(0, x.formula(0, -1, 0, 0));
        Check.due(0, x.formula(0, -1, 0, 0));
        Check.due(0, x.formula(1, 7, 5, 0));
        Check.due(1, x.formula(0, 7, 6, 0));
        Check.due(1, x.calculate());
        Check.due("0.006", Check.shown(x, 1));
        Check.due(1, x.formula(1, -1, 0, 0));
        Check.due(0, x.formula(0, -1, 0, 0));
        x.value(0, -1);
        Check.due(0, x.calculate());
        Check.due("", Check.shown(x, 0));
        Check.due(0, x.formula(0, 7, 7, 0));
        Supplier<FormFields> made = () -> {
            FormFields y = Forms.one(Check.NUMBER);
            y.formula(0, 7, 5, 0);
            return y;
        };
        Probe.refused(Check.NO_SUCH, made, y -> y.formula(0, 0, 0, 1));
        Probe.refused(Check.ARGUMENT, made, y -> y.formula(0, 6, 0, 0));
    }

    private static void whichIsNamedFirst() {
        for (int op = 0; op <= 5; op++) {
            int one = op;
            Probe.allRefused(Check.NO_SUCH, Forms::kinds,
                    x -> x.formula(Check.TEXT, one, 6, 5), x -> x.formula(Check.TEXT, one, 5, 6),
                    x -> x.formula(Check.NUMBER, one, Check.TEXT, 6), x -> x.formula(Check.NUMBER, one, 6, Check.TEXT),
                    x -> x.formula(6, one, Check.TEXT, Check.TEXT));
        }
        Probe.allRefused(Check.NO_SUCH, Forms::kinds,
                x -> x.formula(Check.TEXT, 6, 6, 0), x -> x.formula(6, 8, 0, 0), x -> x.formula(-1, -2, 0, 0));
        Probe.allRefused(Check.ARGUMENT, Forms::kinds,
                x -> x.formula(Check.NUMBER, 8, 6, 6), x -> x.formula(Check.TEXT, 7, 6, 6));
    }
}
