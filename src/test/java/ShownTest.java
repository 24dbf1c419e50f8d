/** Promises 11 to 13: shown, size, validate. */
public final class ShownTest {
    public static void main(String[] args) {
        shownOfKinds();
        decimals();
        commas();
        sizes();
        sizeByCellsAndShown();
        sizeOfOwnBox();
        required();
        numbersValidated();
        wrongCalls();
        Check.end();
    }

    private static void shownOfKinds() {
        FormFields x = new FormFields();
        for (int kind = 0; kind <= 5; kind++) {
            x.field(-1, kind, kind);
            Check.due("", Check.shown(x, kind));
            Check.due(-1, x.shown(kind, -1));
        }
        Check.type(x, 1, "a =~");
        x.value(2, 1);
        x.option(3, 0);
        x.value(3, 0);
        x.option(4, 10203);
        x.value(4, 0);
        Check.type(x, 5, "-12.5");
        Check.due("a =~", Check.shown(x, 1));
        Check.due("X", Check.shown(x, 2));
        Check.due("0", Check.shown(x, 3));
        Check.due("10203", Check.shown(x, 4));
        Check.due("-12.500", Check.shown(x, 5));
        Check.due(-1, x.shown(1, 4));
        Check.due(-1, x.shown(1, Integer.MAX_VALUE));
        Check.due(-1, x.shown(1, Integer.MIN_VALUE));
        Check.due(-1, x.shown(0, 0));
    }

    private static void decimals() {
        String[][] rows = {
            {"0", "0", "0.0", "0.00", "0.000"},
            {"-0", "0", "0.0", "0.00", "0.000"},
            {"1.5", "2", "1.5", "1.50", "1.500"},
            {"-1.5", "-2", "-1.5", "-1.50", "-1.500"},
            {"2.5", "3", "2.5", "2.50", "2.500"},
            {"1.499", "1", "1.5", "1.50", "1.499"},
            {"0.045", "0", "0.0", "0.05", "0.045"},
            {"0.05", "0", "0.1", "0.05", "0.050"},
            {"-0.05", "0", "-0.1", "-0.05", "-0.050"},
            {"-0.049", "0", "0.0", "-0.05", "-0.049"},
            {"-0.004", "0", "0.0", "0.00", "-0.004"},
            {"-0.005", "0", "0.0", "-0.01", "-0.005"},
            {"-0.5", "-1", "-0.5", "-0.50", "-0.500"},
            {"9.995", "10", "10.0", "10.00", "9.995"},
            {"999999999.999", "1000000000", "1000000000.0", "1000000000.00", "999999999.999"},
            {"007", "7", "7.0", "7.00", "7.000"},
            {"5.", "5.", "5.", "5.", "5."},
            {"", "", "", "", ""},
        };
        for (String[] row : rows) {
            FormFields x = new FormFields();
            x.field(-1, Check.NUMBER, 1);
            Check.type(x, 0, row[0]);
            for (int decimals = 0; decimals <= 3; decimals++) {
                x.set(0, 3, decimals);
                Check.due(row[decimals + 1], Check.shown(x, 0));
            }
        }
    }

    private static void commas() {
        String[][] rows = {
            {"0", "0.00"}, {"999", "999.00"}, {"1000", "1,000.00"}, {"-999", "-999.00"},
            {"-1000", "-1,000.00"}, {"123456", "123,456.00"}, {"1234567.891", "1,234,567.89"},
            {"-100000", "-100,000.00"}, {"-999999999.999", "-1,000,000,000.00"}, {"999.995", "1,000.00"},
            {"1000.", "1000."}, {"0001000", "1,000.00"},
        };
        for (String[] row : rows) {
            FormFields x = new FormFields();
            x.field(-1, Check.NUMBER, 1);
            x.set(0, 3, 2);
            x.set(0, 4, 1);
            Check.type(x, 0, row[0]);
            Check.due(row[1], Check.shown(x, 0));
        }
        FormFields x = new FormFields();
        x.field(-1, Check.NUMBER, 1);
        x.set(0, 3, 0);
        x.set(0, 4, 1);
        Check.type(x, 0, "-999999999.5");
        Check.due("-1,000,000,000", Check.shown(x, 0));
        x.set(0, 3, 3);
        Check.due("-999,999,999.500", Check.shown(x, 0));
    }

    private static void sizes() {
        FormFields x = new FormFields();
        x.field(-1, Check.TEXT, 1);
        Check.type(x, 0, "abcd");
        int[][] byWidth = {{192, 96}, {191, 48}, {96, 48}, {95, 24}, {48, 24}, {47, 12}, {24, 12}, {23, 6},
            {12, 6}, {11, -6}, {0, -6}, {100000, 96}};
        for (int[] one : byWidth) {
            x.set(0, 5, one[0]);
            Check.due(one[1], x.size(0));
        }
        x.set(0, 5, 800);
        int[][] byHeight = {{120, 96}, {119, 48}, {60, 48}, {59, 24}, {30, 24}, {29, 12}, {15, 12}, {14, 6},
            {7, 6}, {6, -6}, {0, -6}, {100000, 96}};
        for (int[] one : byHeight) {
            x.set(0, 6, one[0]);
            Check.due(one[1], x.size(0));
        }
        x.value(0, -1);
        x.set(0, 5, 0);
        Check.due(96, x.size(0));
    }

    private static void sizeByCellsAndShown() {
        FormFields x = new FormFields();
        x.field(-1, Check.TEXT, 1);
        x.field(-1, Check.TEXT, 1);
        x.set(0, 1, 17);
        Check.due(48, x.size(0));
        Check.due(48, x.size(1));
        x.set(1, 1, 16);
        Check.due(96, x.size(0));
        x.field(-1, Check.NUMBER, 2);
        x.set(2, 5, 239);
        Check.due(96, x.size(2));
        Check.type(x, 2, "1");
        Check.due(48, x.size(2));
        x.set(2, 3, 0);
        Check.due(96, x.size(2));
        x.field(-1, Check.BOX, 3);
        x.set(3, 5, 40);
        Check.due(96, x.size(3));
        x.value(3, 1);
        Check.due(48, x.size(3));
        x.field(-1, Check.CHOICE, 4);
        x.option(4, 12345);
        x.value(4, 0);
        x.set(4, 5, 239);
        Check.due(48, x.size(4));
    }

    private static void sizeOfOwnBox() {
        FormFields x = new FormFields();
        x.field(-1, Check.TEXT, 1);
        x.field(-1, Check.TEXT, 1);
        Check.type(x, 0, "ab");
        x.set(1, 5, 50);
        Check.due(96, x.size(0));
        Check.due(48, x.size(1));
        x.set(1, 6, 30);
        Check.due(96, x.size(0));
        Check.due(24, x.size(1));
    }

    private static void required() {
        FormFields x = new FormFields();
        x.field(-1, Check.GROUP, 0);
        for (int kind = 1; kind <= 5; kind++) {
            x.field(-1, kind, kind);
            Check.due(1, x.validate(kind));
            x.set(kind, 0, 1);
            Check.due(2, x.validate(kind));
        }
        x.value(1, 32);
        x.value(2, 1);
        x.option(3, 0);
        x.value(3, 0);
        x.option(4, 7);
        Check.due(2, x.validate(4));
        x.value(4, 0);
        x.value(5, 48);
        for (int kind = 1; kind <= 5; kind++) {
            Check.due(1, x.validate(kind));
        }
        x.value(1, -1);
        x.value(2, 0);
        x.value(4, -1);
        x.value(5, -1);
        x.bounds(5, 1, 2);
        for (int kind : new int[] {1, 2, 4, 5}) {
            Check.due(2, x.validate(kind));
            x.set(kind, 0, 0);
            Check.due(1, x.validate(kind));
        }
    }

    private static void numbersValidated() {
        FormFields x = new FormFields();
        x.field(-1, Check.NUMBER, 1);
        x.field(-1, Check.NUMBER, 1);
        x.bounds(0, -1500, 2000);
        String[] signs = {"-1.501", "-1.5", "0", "2", "2.001", "2.", "-", ""};
        int[] due = {4, 1, 1, 1, 5, 3, 3, 1};
        for (int i = 0; i < signs.length; i++) {
            Check.retype(x, 0, signs[i]);
            Check.due(due[i], x.validate(0));
            Check.due(due[i], x.validate(1));
        }
        x.bounds(1, 5, 5);
        Check.due(1, x.validate(0));
        x.value(1, 48);
        Check.due(4, x.validate(0));
        x.bounds(1, -5, -5);
        Check.due(5, x.validate(0));
    }

    private static void wrongCalls() {
        FormFields x = new FormFields();
        x.field(-1, Check.GROUP, 1);
        for (int field : new int[] {-1, 1, 40, Integer.MAX_VALUE, Integer.MIN_VALUE}) {
            Check.refused(Check.NO_SUCH, () -> x.shown(field, 0));
            Check.refused(Check.NO_SUCH, () -> x.size(field));
            Check.refused(Check.NO_SUCH, () -> x.validate(field));
        }
        Check.refused(Check.ARGUMENT, () -> x.size(0));
        Check.refused(Check.ARGUMENT, () -> x.validate(0));
    }
}
