/** The boundary cases of promises 11 to 13, each sentence in a test of its own. */
public final class ShownEdgesTest {
    private static final int[] NO_FIELDS = {Integer.MIN_VALUE, -1, Forms.COUNT, 40, Integer.MAX_VALUE};

    public static void main(String[] args) {
        noSuchField();
        noGroup();
        looksChangeNothing();
        signFromTo();
        shownOfTexts();
        shownOfBoxes();
        shownOfCodes();
        shownOfNumbersWithoutAmount();
        halfAwayFromZero();
        noMinusWhenZero();
        roundedUpToMoreDigits();
        commas();
        commasWithDecimals();
        widthOfSizes();
        heightOfSizes();
        bothMustFit();
        nothingShownFitsAnyWidth();
        cellsCountAsSigns();
        doesNotFit();
        sizeOfWhatIsShown();
        requiredAndEmpty();
        requiredAndNotEmpty();
        notRequired();
        numberWithoutAmount();
        belowTheLeast();
        aboveTheGreatest();
        notAskedWithoutSigns();
        firstOfThese();
        Check.end();
    }

    // "NoSuchElementException: there is no such field."
    private static void noSuchField() {
        for (int field : NO_FIELDS) {
            Probe.allRefused(Check.NO_SUCH, Forms::rich,
                    x -> x.shown(field, 0), x -> x.shown(field, -1), x -> x.size(field), x -> x.validate(field));
        }
    }

    // "IllegalArgumentException: a GROUP"; "-1 when there is none (of a GROUP, too)"
    private static void noGroup() {
        Probe.allRefused(Check.ARGUMENT, Forms::rich, x -> x.size(Forms.GROUP), x -> x.validate(Forms.GROUP));
        for (int i : new int[] {Integer.MIN_VALUE, -1, 0, 1, Integer.MAX_VALUE}) {
            Check.due(-1, Forms.rich().shown(Forms.GROUP, i));
        }
    }

    private static void looksChangeNothing() {
        Probe.alike(Forms::rich, () -> {
            FormFields x = Forms.rich();
            for (int field = 0; field < Forms.COUNT; field++) {
                x.shown(field, 0);
                if (field != Forms.GROUP) {
                    x.size(field);
                    x.validate(field);
                }
            }
            return x;
        });
    }

    // "SIGN i of what is SHOWN; -1 when there is none"
    private static void signFromTo() {
        String thirty = "abcdefghijklmnopqrstuvwxyz0123";
        for (int count = 0; count <= 30; count++) {
            FormFields x = Forms.typed(Check.TEXT, thirty.substring(0, count));
            for (int i = 0; i < count; i++) {
                Check.due(thirty.charAt(i), x.shown(0, i));
            }
            for (int i : new int[] {Integer.MIN_VALUE, -2, -1, count, count + 1, Integer.MAX_VALUE}) {
                Check.due(-1, x.shown(0, i));
            }
        }
    }

    // "of TEXT its SIGNS"
    private static void shownOfTexts() {
        for (String signs : new String[] {"", " ", "~", "-1000.5", "X", "0"}) {
            Check.due(signs, Check.shown(Forms.typed(Check.TEXT, signs), 0));
        }
    }

    // "of a BOX 88 if it is 1"
    private static void shownOfBoxes() {
        FormFields x = Forms.one(Check.BOX);
        Check.due("", Check.shown(x, 0));
        x.value(0, 1);
        Check.due(88, x.shown(0, 0));
        Check.due(-1, x.shown(0, 1));
        x.value(0, 0);
        Check.due("", Check.shown(x, 0));
    }

    // "of a RADIO or CHOICE the digits of the CODE"
    private static void shownOfCodes() {
        for (int kind : new int[] {Check.RADIO, Check.CHOICE}) {
            for (int code : new int[] {0, 9, 10, 100, 99999, 10000, 12345}) {
                FormFields x = Forms.one(kind);
                x.option(0, code);
                Check.due("", Check.shown(x, 0));
                x.value(0, 0);
                Check.due("" + code, Check.shown(x, 0));
            }
        }
    }

    private static FormFields number(String signs, int decimals, int commas) {
        FormFields x = Forms.typed(Check.NUMBER, signs);
        x.set(0, 3, decimals);
        x.set(0, 4, commas);
        return x;
    }

    // "of a NUMBER that has an AMOUNT and SIGNS that AMOUNT ..; of others its SIGNS"
    private static void shownOfNumbersWithoutAmount() {
        for (String signs : new String[] {"", "-", ".", "5.", "1.2345", "1234567890", "-1000.", "1000000000.5"}) {
            for (int decimals = 0; decimals <= 3; decimals++) {
                Check.due(signs, Check.shown(number(signs, decimals, 0), 0));
                Check.due(signs, Check.shown(number(signs, decimals, 1), 0));
            }
        }
    }

    // "with so many DECIMALS (the half away from 0 ..)"
    private static void halfAwayFromZero() {
        String[][] rows = {
            {"1", "1", "1.0", "1.00", "1.000"},
            {"0.499", "0", "0.5", "0.50", "0.499"},
            {"0.5", "1", "0.5", "0.50", "0.500"},
            {"1.499", "1", "1.5", "1.50", "1.499"},
            {"1.5", "2", "1.5", "1.50", "1.500"},
            {"2.5", "3", "2.5", "2.50", "2.500"},
            {"2.501", "3", "2.5", "2.50", "2.501"},
            {"-1.499", "-1", "-1.5", "-1.50", "-1.499"},
            {"-1.5", "-2", "-1.5", "-1.50", "-1.500"},
            {"-2.5", "-3", "-2.5", "-2.50", "-2.500"},
            {"1.049", "1", "1.0", "1.05", "1.049"},
            {"1.05", "1", "1.1", "1.05", "1.050"},
            {"1.15", "1", "1.2", "1.15", "1.150"},
            {"-1.049", "-1", "-1.0", "-1.05", "-1.049"},
            {"-1.05", "-1", "-1.1", "-1.05", "-1.050"},
            {"1.004", "1", "1.0", "1.00", "1.004"},
            {"1.005", "1", "1.0", "1.01", "1.005"},
            {"1.015", "1", "1.0", "1.02", "1.015"},
            {"-1.004", "-1", "-1.0", "-1.00", "-1.004"},
            {"-1.005", "-1", "-1.0", "-1.01", "-1.005"},
            {"00", "0", "0.0", "0.00", "0.000"},
        };
        shownWithDecimals(rows);
    }

    private static void shownWithDecimals(String[][] rows) {
        for (String[] row : rows) {
            for (int decimals = 0; decimals <= 3; decimals++) {
                Check.due(row[decimals + 1], Check.shown(number(row[0], decimals, 0), 0));
            }
        }
    }

    // "without a 45 when it is 0 then"
    private static void noMinusWhenZero() {
        shownWithDecimals(new String[][] {
            {"-0", "0", "0.0", "0.00", "0.000"},
            {"-0.000", "0", "0.0", "0.00", "0.000"},
            {"-0.001", "0", "0.0", "0.00", "-0.001"},
            {"-0.004", "0", "0.0", "0.00", "-0.004"},
            {"-0.005", "0", "0.0", "-0.01", "-0.005"},
            {"-0.049", "0", "0.0", "-0.05", "-0.049"},
            {"-0.05", "0", "-0.1", "-0.05", "-0.050"},
            {"-0.499", "0", "-0.5", "-0.50", "-0.499"},
            {"-0.5", "-1", "-0.5", "-0.50", "-0.500"},
        });
    }

    private static void roundedUpToMoreDigits() {
        shownWithDecimals(new String[][] {
            {"9.5", "10", "9.5", "9.50", "9.500"},
            {"9.95", "10", "10.0", "9.95", "9.950"},
            {"99.995", "100", "100.0", "100.00", "99.995"},
            {"0.999", "1", "1.0", "1.00", "0.999"},
            {"999999999.999", "1000000000", "1000000000.0", "1000000000.00", "999999999.999"},
            {"-999999999.999", "-1000000000", "-1000000000.0", "-1000000000.00", "-999999999.999"},
            {"999999999.499", "999999999", "999999999.5", "999999999.50", "999999999.499"},
        });
    }

    // "with COMMAS 44 before each three digits of the whole part that have digits before them"
    private static void commas() {
        String[][] rows = {{"0", "0"}, {"9", "9"}, {"99", "99"}, {"999", "999"}, {"1000", "1,000"},
            {"12345", "12,345"}, {"999999", "999,999"}, {"1000000", "1,000,000"}, {"12345678", "12,345,678"},
            {"999999999", "999,999,999"}, {"999999999.5", "1,000,000,000"}, {"999.5", "1,000"}, {"999.499", "999"},
            {"999999.5", "1,000,000"}, {"000000999", "999"}, {"000001000", "1,000"}, {"-0.4", "0"}};
        for (String[] row : rows) {
            Check.due(row[1], Check.shown(number(row[0], 0, 1), 0));
            if (!row[0].startsWith("-") && !row[1].equals("0")) {
                Check.due("-" + row[1], Check.shown(number("-" + row[0], 0, 1), 0));
            }
        }
    }

    private static void commasWithDecimals() {
        String[][] rows = {{"999.125", "999.1", "999.13", "999.125"}, {"1000.125", "1,000.1", "1,000.13", "1,000.125"},
            {"-999.999", "-1,000.0", "-1,000.00", "-999.999"}, {"123456.7", "123,456.7", "123,456.70", "123,456.700"},
            {"-999999999.999", "-1,000,000,000.0", "-1,000,000,000.00", "-999,999,999.999"},
            {"0.125", "0.1", "0.13", "0.125"}};
        for (String[] row : rows) {
            for (int decimals = 1; decimals <= 3; decimals++) {
                Check.due(row[decimals], Check.shown(number(row[0], decimals, 1), 0));
            }
        }
    }

    private static FormFields text(int signs, int width, int height) {
        FormFields x = Forms.typed(Check.TEXT, "abcdefghijklmnopqrstuvwxyz0123".substring(0, signs));
        x.set(0, 5, width);
        x.set(0, 6, height);
        return x;
    }

    // "A SIGN is half as wide as the SIZE. One FITS if all that is SHOWN .. is not wider than the WIDTH"
    private static void widthOfSizes() {
        int[] sizes = {96, 48, 24, 12, 6, -6};
        for (int signs = 1; signs <= 30; signs++) {
            for (int i = 0; i < 5; i++) {
                int width = signs * sizes[i] / 2;
                Check.due(sizes[i], text(signs, width, 100000).size(0));
                Check.due(sizes[i + 1], text(signs, width - 1, 100000).size(0));
                Check.due(sizes[i], text(signs, width + 1, 100000).size(0));
            }
        }
        Check.due(96, text(30, 100000, 100000).size(0));
    }

    // "and the SIZE and a quarter (cut off) not above the HEIGHT"
    private static void heightOfSizes() {
        int[][] rows = {{121, 96}, {120, 96}, {119, 48}, {61, 48}, {60, 48}, {59, 24}, {31, 24}, {30, 24}, {29, 12},
            {16, 12}, {15, 12}, {14, 6}, {8, 6}, {7, 6}, {6, -6}, {5, -6}, {1, -6}, {0, -6}};
        for (int[] row : rows) {
            Check.due(row[1], text(1, 100000, row[0]).size(0));
            Check.due(row[1], text(0, 0, row[0]).size(0));
        }
    }

    private static void bothMustFit() {
        Check.due(48, text(2, 96, 60).size(0));
        Check.due(48, text(2, 48, 120).size(0));
        Check.due(24, text(2, 48, 59).size(0));
        Check.due(24, text(2, 47, 60).size(0));
        Check.due(6, text(2, 6, 7).size(0));
        Check.due(-6, text(2, 5, 7).size(0));
        Check.due(-6, text(2, 6, 6).size(0));
    }

    private static void nothingShownFitsAnyWidth() {
        for (int kind = 1; kind <= 5; kind++) {
            FormFields x = Forms.one(kind);
            x.set(0, 5, 0);
            Check.due(96, x.size(0));
            x.set(0, 6, 119);
            Check.due(48, x.size(0));
            x.set(0, 6, 0);
            Check.due(-6, x.size(0));
        }
    }

    // "(of a TEXT with CELLS as many SIGNS as these)"
    private static void cellsCountAsSigns() {
        for (int signs = 0; signs <= 10; signs += 5) {
            FormFields x = text(signs, 480, 120);
            x.set(0, 1, 10);
            Check.due(96, x.size(0));
            x.set(0, 5, 479);
            Check.due(48, x.size(0));
            x.set(0, 5, 30);
            Check.due(6, x.size(0));
            x.set(0, 5, 29);
            Check.due(-6, x.size(0));
            x.set(0, 1, 0);
            Check.due(signs == 0 ? 96 : signs == 5 ? 6 : -6, x.size(0));
        }
        FormFields x = text(0, 48, 120);
        x.set(0, 1, 1);
        Check.due(96, x.size(0));
        x.set(0, 5, 47);
        Check.due(48, x.size(0));
        x.set(0, 5, 2);
        Check.due(-6, x.size(0));
    }

    // "The SIZE of a field is the greatest that FITS, else 6"; "below 0 when it does not FIT"
    private static void doesNotFit() {
        Check.due(6, text(1, 3, 7).size(0));
        Check.due(-6, text(1, 2, 7).size(0));
        Check.due(-6, text(1, 0, 100000).size(0));
        Check.due(-6, text(30, 89, 100000).size(0));
        Check.due(6, text(30, 90, 100000).size(0));
        Check.due(-6, text(0, 100000, 0).size(0));
    }

    /** By what is shown, which for a number is not its signs. */
    private static void sizeOfWhatIsShown() {
        FormFields x = number("1000", 3, 1);
        x.set(0, 5, 9 * 48);
        Check.due(96, x.size(0));
        x.set(0, 5, 9 * 48 - 1);
        Check.due(48, x.size(0));
        x.set(0, 4, 0);
        Check.due(96, x.size(0));
        x.set(0, 5, 4 * 48);
        Check.due(48, x.size(0));
        x.set(0, 3, 0);
        Check.due(96, x.size(0));
        FormFields y = number("1000.", 3, 1);
        y.set(0, 5, 5 * 48);
        Check.due(96, y.size(0));
        FormFields z = Forms.one(Check.CHOICE);
        z.option(0, 99999);
        z.option(0, 0);
        z.set(0, 5, 5 * 48 - 1);
        Check.due(96, z.size(0));
        z.value(0, 0);
        Check.due(48, z.size(0));
        z.value(0, 1);
        Check.due(96, z.size(0));
    }

    private static FormFields required(int kind) {
        FormFields x = Forms.one(kind);
        x.set(0, 0, 1);
        if (kind == Check.RADIO || kind == Check.CHOICE) {
            x.option(0, 0);
            x.option(0, 5);
        }
        return x;
    }

    // "2 it is REQUIRED, and has no SIGNS, is 0, or none"
    private static void requiredAndEmpty() {
        for (int kind = 1; kind <= 5; kind++) {
            Check.due(2, required(kind).validate(0));
        }
    }

    private static void requiredAndNotEmpty() {
        int[][] rows = {{Check.TEXT, 32}, {Check.TEXT, 48}, {Check.BOX, 1}, {Check.RADIO, 0}, {Check.RADIO, 1},
            {Check.CHOICE, 0}, {Check.CHOICE, 1}, {Check.NUMBER, 48}};
        for (int[] row : rows) {
            FormFields x = required(row[0]);
            x.value(0, row[1]);
            Check.due(1, x.validate(0));
            if (row[0] != Check.RADIO) {
                x.value(0, row[0] == Check.BOX ? 0 : -1);
                Check.due(2, x.validate(0));
            }
        }
    }

    // "1 when all is well"
    private static void notRequired() {
        for (int kind = 1; kind <= 5; kind++) {
            FormFields x = required(kind);
            x.set(0, 0, 0);
            Check.due(1, x.validate(0));
        }
    }

    // "3 a NUMBER has no AMOUNT"
    private static void numberWithoutAmount() {
        for (String signs : new String[] {"-", ".", "1.", ".1", "1.2345", "1234567890", "1-"}) {
            FormFields x = Forms.typed(Check.NUMBER, signs);
            Check.due(3, x.validate(0));
            x.set(0, 0, 1);
            Check.due(3, x.validate(0));
            Check.due(1, Forms.typed(Check.TEXT, signs).validate(0));
        }
        for (String signs : new String[] {"0", "-0", "1.2", "1.234", "123456789"}) {
            Check.due(1, Forms.typed(Check.NUMBER, signs).validate(0));
        }
    }

    private static void validated(int due, String signs, long least, long most) {
        FormFields x = Forms.typed(Check.NUMBER, signs);
        x.bounds(0, least, most);
        Check.due(due, x.validate(0));
    }

    // "4 that is below the least"
    private static void belowTheLeast() {
        validated(1, "1.5", 1499, 2000);
        validated(1, "1.5", 1500, 2000);
        validated(4, "1.5", 1501, 2000);
        validated(1, "-1.5", -1500, 0);
        validated(4, "-1.5", -1499, 0);
        validated(1, "0", 0, 5);
        validated(4, "0", 1, 5);
        validated(4, "-999999999.999", -999999999998L, 0);
        validated(1, "-999999999.999", -999999999999L, 0);
    }

    // "5 above the greatest one"
    private static void aboveTheGreatest() {
        validated(1, "1.5", 0, 1501);
        validated(1, "1.5", 0, 1500);
        validated(5, "1.5", 0, 1499);
        validated(1, "-1.5", -2000, -1500);
        validated(5, "-1.5", -2000, -1501);
        validated(1, "0", -5, 0);
        validated(5, "0", -5, -1);
        validated(5, "999999999.999", 0, 999999999998L);
        validated(1, "999999999.999", 0, 999999999999L);
    }

    // "(not asked without SIGNS)"
    private static void notAskedWithoutSigns() {
        validated(1, "", 1, 5);
        validated(1, "", -5, -1);
        validated(4, "0", 1, 5);
        validated(5, "0", -5, -1);
    }

    // "else the first of these"
    private static void firstOfThese() {
        FormFields x = required(Check.NUMBER);
        x.bounds(0, 1, 5);
        Check.due(2, x.validate(0));
        x.bounds(0, -5, -1);
        Check.due(2, x.validate(0));
        Check.type(x, 0, "-");
        Check.due(3, x.validate(0));
        Check.type(x, 0, "1");
        Check.due(4, x.validate(0));
        Check.retype(x, 0, "1");
        Check.due(5, x.validate(0));
        Check.retype(x, 0, "-0.001");
        Check.due(1, x.validate(0));
    }
}
