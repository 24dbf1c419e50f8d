/** Promises 6 to 10: bounds, formula, calculate, failed, fails. */
public final class FormulasTest {
    private static final long MOST = 999999999999L;

    public static void main(String[] args) {
        bounds();
        wrongFormulas();
        formulaAnswers();
        ofTwo();
        farProducts();
        amountsWritten();
        amountsRead();
        groupSums();
        order();
        rings();
        failures();
        toldToFail();
        mastersCount();
        fortyFormulas();
        Check.end();
    }

    private static void bounds() {
        FormFields x = new FormFields();
        for (int kind = 0; kind <= 4; kind++) {
            int field = x.field(-1, kind, kind);
            Check.refused(Check.ARGUMENT, () -> bounds(x, field, 0, 1));
        }
        x.field(-1, Check.NUMBER, 5);
        x.field(-1, Check.NUMBER, 5);
        Check.refused(Check.NO_SUCH, () -> bounds(x, 7, 1, 0));
        Check.refused(Check.NO_SUCH, () -> bounds(x, -1, 0, 1));
        Check.refused(Check.ARGUMENT, () -> bounds(x, 5, 1, 0));
        Check.refused(Check.ARGUMENT, () -> bounds(x, 5, -MOST - 1, 0));
        Check.refused(Check.ARGUMENT, () -> bounds(x, 5, 0, MOST + 1));
        Check.refused(Check.ARGUMENT, () -> bounds(x, 5, Long.MIN_VALUE, Long.MAX_VALUE));
        Check.type(x, 5, "-999999999.999");
        Check.due(1, x.validate(5));
        bounds(x, 6, -MOST + 1, MOST);
        Check.due(4, x.validate(5));
        Check.refused(Check.ARGUMENT, () -> bounds(x, 5, -MOST - 1, 0));
        Check.due(4, x.validate(5));
        bounds(x, 5, -MOST, -MOST);
        Check.due(1, x.validate(5));
        Check.retype(x, 5, "999999999.999");
        Check.due(5, x.validate(6));
        bounds(x, 5, -MOST, MOST);
        Check.due(1, x.validate(6));
    }

    private static long bounds(FormFields x, int field, long least, long most) {
        x.bounds(field, least, most);
        return 0;
    }

    private static void wrongFormulas() {
        FormFields x = new FormFields();
        for (int kind = 0; kind <= 5; kind++) {
            x.field(-1, kind, kind);
        }
        for (int kind = 0; kind <= 4; kind++) {
            int field = kind;
            Check.refused(Check.ARGUMENT, () -> x.formula(field, 7, 0, 0));
            Check.refused(Check.ARGUMENT, () -> x.formula(field, -1, 0, 0));
            Check.refused(Check.NO_SUCH, () -> x.formula(field, 0, 0, 6));
        }
        Check.refused(Check.NO_SUCH, () -> x.formula(6, 7, 0, 0));
        Check.refused(Check.NO_SUCH, () -> x.formula(-1, 9, 0, 0));
        Check.refused(Check.ARGUMENT, () -> x.formula(5, 8, 99, 99));
        Check.refused(Check.ARGUMENT, () -> x.formula(5, -2, 99, 99));
        for (int op = 0; op <= 5; op++) {
            int one = op;
            Check.refused(Check.NO_SUCH, () -> x.formula(5, one, 6, 5));
            Check.refused(Check.NO_SUCH, () -> x.formula(5, one, 5, 6));
            Check.refused(Check.NO_SUCH, () -> x.formula(5, one, -1, 5));
            for (int kind : new int[] {0, 1, 3, 4}) {
                Check.refused(Check.ARGUMENT, () -> x.formula(5, one, kind, 5));
                Check.refused(Check.ARGUMENT, () -> x.formula(5, one, 5, kind));
            }
        }
        Check.refused(Check.NO_SUCH, () -> x.formula(5, 6, 6, 0));
        for (int kind = 1; kind <= 5; kind++) {
            int group = kind;
            Check.refused(Check.ARGUMENT, () -> x.formula(5, 6, group, 0));
        }
        Check.due(0, x.formula(5, -1, 0, 0));
    }

    private static void formulaAnswers() {
        FormFields x = new FormFields();
        x.field(-1, Check.NUMBER, 1);
        x.field(-1, Check.NUMBER, 1);
        x.field(-1, Check.GROUP, 2);
        Check.due(0, x.formula(0, -1, 99, 99));
        Check.due(0, x.formula(1, 7, Integer.MIN_VALUE, 99));
        Check.due(1, x.calculate());
        Check.due("-2147483.648", Check.shown(x, 0));
        Check.due(1, x.formula(0, 6, 2, 99));
        Check.due(1, x.formula(0, 7, 5, -1));
        Check.due(1, x.formula(1, -1, 0, 0));
        Check.due(0, x.formula(0, -1, 0, 0));
        Check.due(0, x.calculate());
        Check.due("-2147483.648", Check.shown(x, 0));
    }

    private static void ofTwo() {
        String[][] rows = {
            {"1.5", "2.25", "3.75", "-0.75", "3.375", "0.666", "1.5", "2.25"},
            {"-1.5", "2.25", "0.75", "-3.75", "-3.375", "-0.666", "-1.5", "2.25"},
            {"0.001", "0.999", "1", "-0.998", "0", "0.001", "0.001", "0.999"},
            {"-0.001", "0.999", "0.998", "-1", "0", "-0.001", "-0.001", "0.999"},
            {"0", "-3", "-3", "3", "0", "0", "-3", "0"},
            {"", "4", "4", "-4", "0", "0", "0", "4"},
            {"-10", "-0.004", "-10.004", "-9.996", "0.04", "2500", "-10", "-0.004"},
            {"007.50", "2", "9.5", "5.5", "15", "3.75", "2", "7.5"},
        };
        for (String[] row : rows) {
            FormFields x = twoNumbersAndResult(row[0], row[1]);
            for (int op = 0; op <= 5; op++) {
                x.value(2, -1);
                x.formula(2, op, 0, 1);
                Check.due(1, x.calculate());
                Check.due(row[0], text(x, 0));
                Check.due(row[op + 2], text(x, 2));
                Check.due(0, x.calculate());
            }
        }
    }

    private static FormFields twoNumbersAndResult(String a, String b) {
        FormFields x = new FormFields();
        x.field(-1, Check.NUMBER, 0);
        x.field(-1, Check.NUMBER, 1);
        x.field(-1, Check.NUMBER, 2);
        Check.type(x, 0, a);
        Check.type(x, 1, b);
        return x;
    }

    /** The SIGNS of a NUMBER, as its line of the data has them. */
    private static String text(FormFields x, int master) {
        return Check.data(x).split("\n", -1)[master].split("=", -1)[1];
    }

    private static void farProducts() {
        result("999999999.999", 0, "0.001", null);
        result("999999999.998", 0, "0.001", "999999999.999");
        result("-999999999.999", 1, "0.001", null);
        result("-999999999.999", 1, "-0.001", "-999999999.998");
        result("999999999.999", 2, "999999999.999", null);
        result("999999999.999", 2, "-999999999.999", null);
        result("999999999.999", 2, "1", "999999999.999");
        result("-1", 2, "999999999.999", "-999999999.999");
        result("999999999.999", 2, "1.001", null);
        result("1.001", 2, "999999999.999", null);
        result("0.999", 2, "999999999.999", "998999999.999");
        result("31622.776", 2, "31622.776", "999999961.946");
        result("31622.777", 2, "31622.776", "999999993.568");
        result("31622.777", 2, "31622.777", null);
        result("500000000", 2, "2", null);
        result("536870912", 2, "34359738.368", null);
        result("-34359738.368", 2, "536870912", null);
        result("499999999.999", 2, "2", "999999999.998");
        result("999999999.999", 3, "0.999", null);
        result("999999999.999", 3, "1", "999999999.999");
        result("999999999.999", 3, "-0.001", null);
        result("999999.999", 3, "0.001", "999999999");
        result("1", 3, "0", null);
        result("0", 3, "0", null);
        result("1", 3, "", null);
        result("0.001", 3, "999999999.999", "0");
        result("999999999.999", 5, "-999999999.999", "999999999.999");
        result("999999999.999", 4, "-999999999.999", "-999999999.999");
    }

    /** Without a result that is due, the formula fails, and the signs stay. */
    private static void result(String a, int op, String b, String due) {
        FormFields x = twoNumbersAndResult(a, b);
        Check.type(x, 2, "77.0");
        x.formula(2, op, 0, 1);
        Check.due(due == null ? 0 : 1, x.calculate());
        Check.due(due == null ? 1 : 0, x.failed(-1));
        Check.due(due == null ? "77.0" : due, text(x, 2));
    }

    private static void amountsWritten() {
        int[] amounts = {0, 1, -1, 10, 100, 1000, -1000, 1500, -50, 120, 123456789, 1000000000, 10010};
        String[] due = {"0", "0.001", "-0.001", "0.01", "0.1", "1", "-1", "1.5", "-0.05", "0.12",
            "123456.789", "1000000", "10.01"};
        FormFields x = new FormFields();
        x.field(-1, Check.NUMBER, 1);
        for (int i = 0; i < amounts.length; i++) {
            x.formula(0, 7, amounts[i], 0);
            Check.due(1, x.calculate());
            Check.due(due[i], text(x, 0));
        }
        Check.retype(x, 0, "10.010");
        Check.due(1, x.calculate());
        Check.due("10.01", text(x, 0));
        x.lock(0, true);
        x.formula(0, 7, 5, 0);
        Check.due(1, x.calculate());
        Check.due("0.005", text(x, 0));
    }

    private static void amountsRead() {
        String[] none = {"-", ".", "-.", ".5", "5.", "-5.", "1.2345", "1234567890", "-1234567890", "1-",
            "--1", "1.2.3", "1.-2", "1..2", "0000000001", "1-1", "1.2-"};
        for (String signs : none) {
            FormFields x = twoNumbersAndResult(signs, "1");
            Check.due(3, x.validate(0));
            Check.due(signs, Check.shown(x, 0));
            for (int op = 0; op <= 5; op++) {
                x.formula(2, op, 0, 1);
                x.calculate();
                Check.due(1, x.failed(-1));
                x.formula(2, op, 1, 0);
                x.calculate();
                Check.due(1, x.failed(-1));
            }
        }
        String[][] some = {{"-0", "0"}, {"-0.0", "0"}, {"000000001", "1"}, {"-12.3", "-12.3"}, {"", "0"},
            {"12.34", "12.34"}, {"0.000", "0"}, {"-000000000.001", "-0.001"}, {"9", "9"}};
        for (String[] one : some) {
            FormFields x = twoNumbersAndResult(one[0], "");
            Check.due(1, x.validate(0));
            x.formula(2, 0, 0, 1);
            Check.due(1, x.calculate());
            Check.due(one[1], text(x, 2));
        }
    }

    private static void groupSums() {
        FormFields x = new FormFields();
        x.field(-1, Check.GROUP, 1);
        x.field(0, Check.GROUP, 2);
        x.field(1, Check.NUMBER, 3);
        x.field(0, Check.GROUP, 2);
        x.field(3, Check.NUMBER, 3);
        x.field(0, Check.NUMBER, 4);
        x.field(0, Check.BOX, 5);
        x.field(0, Check.TEXT, 6);
        x.field(-1, Check.NUMBER, 7);
        x.field(-1, Check.GROUP, 8);
        Check.type(x, 2, "1.25");
        Check.type(x, 5, "2");
        Check.type(x, 7, "9");
        x.value(6, 1);
        groupSum(x, 0, "3.25");
        groupSum(x, 1, "1.25");
        groupSum(x, 3, "1.25");
        groupSum(x, 9, "0");
        x.field(9, Check.NUMBER, 1);
        Check.type(x, 10, "44");
        x.calculate();
        Check.due("44.000", Check.shown(x, 8));
        Check.retype(x, 5, "2.");
        x.formula(8, 6, 0, 0);
        Check.due(0, x.calculate());
        Check.due(8, x.failed(0));
        Check.due("44.000", Check.shown(x, 8));
        Check.retype(x, 5, "999999998.749");
        Check.due(1, x.calculate());
        Check.retype(x, 5, "999999998.750");
        Check.due(0, x.calculate());
        Check.due(1, x.failed(-1));
        x.field(1, Check.NUMBER, 9);
        Check.type(x, 11, "-0.001");
        Check.due(0, x.calculate());
        Check.due(0, x.failed(-1));
        Check.due("999999999.999", Check.shown(x, 8));
    }

    private static void groupSum(FormFields x, int group, String due) {
        x.value(8, -1);
        x.formula(8, 6, group, 0);
        Check.due(1, x.calculate());
        Check.due(0, x.failed(-1));
        Check.due(due, text(x, 4));
    }

    private static void order() {
        FormFields x = new FormFields();
        for (int i = 0; i < 6; i++) {
            x.field(-1, Check.NUMBER, i);
        }
        x.formula(0, 0, 1, 1);
        x.formula(1, 0, 2, 2);
        x.formula(2, 0, 5, 3);
        x.formula(3, 7, 1000, 0);
        Check.due(4, x.calculate());
        Check.due("4.000", Check.shown(x, 0));
        Check.due(0, x.calculate());
        Check.type(x, 5, "1");
        Check.due(3, x.calculate());
        Check.due("8.000", Check.shown(x, 0));
        for (int i = 0; i < 5; i++) {
            x.fails(i, true);
        }
        x.formula(4, 7, 0, 0);
        Check.due(0, x.calculate());
        int[] due = {3, 2, 1, 0, 4};
        Check.due(5, x.failed(-1));
        for (int i = 0; i < 5; i++) {
            Check.due(due[i], x.failed(i));
        }
    }

    private static void rings() {
        FormFields x = new FormFields();
        for (int i = 0; i < 6; i++) {
            x.field(-1, Check.NUMBER, i);
        }
        x.formula(5, 7, 1000, 0);
        x.formula(0, 0, 2, 2);
        x.formula(1, 3, 5, 4);
        Check.due(2, x.calculate());
        Check.due(1, x.failed(0));
        x.formula(5, 7, 2000, 0);
        x.formula(2, 0, 4, 3);
        x.formula(3, 0, 2, 4);
        Check.due(-3, x.calculate());
        Check.due("1.000", Check.shown(x, 5));
        Check.due(1, x.failed(-1));
        Check.due(1, x.failed(0));
        x.fails(2, true);
        Check.due(-3, x.calculate());
        x.formula(3, 0, 3, 4);
        Check.due(-4, x.calculate());
        x.formula(3, -1, 0, 0);
        x.fails(2, false);
        Check.due(2, x.calculate());
        x.formula(3, 0, 0, 4);
        Check.due(-1, x.calculate());
        x.field(-1, Check.GROUP, 6);
        x.field(6, Check.NUMBER, 1);
        x.formula(3, -1, 0, 0);
        x.formula(7, 6, 6, 0);
        Check.due(-8, x.calculate());
    }

    private static void failures() {
        FormFields x = new FormFields();
        for (int i = 0; i < 5; i++) {
            x.field(-1, Check.NUMBER, i);
        }
        Check.type(x, 0, "-");
        x.formula(1, 0, 0, 0);
        x.formula(2, 3, 3, 4);
        x.formula(3, 7, 0, 0);
        Check.due(1, x.calculate());
        Check.due(2, x.failed(-1));
        Check.due(1, x.failed(0));
        Check.due(2, x.failed(1));
        Check.refused(Check.INDEX, () -> x.failed(2));
        Check.refused(Check.INDEX, () -> x.failed(-2));
        Check.refused(Check.INDEX, () -> x.failed(Integer.MIN_VALUE));
        Check.type(x, 0, "7");
        x.formula(3, 0, 1, 1);
        Check.due(2, x.calculate());
        Check.due("-28.000", Check.shown(x, 3));
        Check.due(1, x.failed(-1));
        x.formula(2, -1, 0, 0);
        Check.due(1, x.failed(-1));
        Check.due(0, x.calculate());
        Check.due(0, x.failed(-1));
        Check.refused(Check.INDEX, () -> x.failed(0));
        Check.retype(x, 0, "-");
        Check.due(0, x.calculate());
        Check.due(1, x.failed(-1));
        Check.due("-14.000", Check.shown(x, 1));
    }

    private static void toldToFail() {
        FormFields x = new FormFields();
        for (int kind = 0; kind <= 4; kind++) {
            int field = x.field(-1, kind, kind);
            Check.refused(Check.ARGUMENT, () -> x.fails(field, true));
            Check.refused(Check.ARGUMENT, () -> x.fails(field, false));
        }
        Check.refused(Check.NO_SUCH, () -> x.fails(5, true));
        Check.refused(Check.NO_SUCH, () -> x.fails(-1, true));
        x.field(-1, Check.NUMBER, 5);
        x.field(-1, Check.NUMBER, 5);
        Check.due(0, x.fails(6, true));
        Check.due(1, x.fails(5, true));
        Check.due(0, x.calculate());
        Check.due(0, x.failed(-1));
        x.formula(5, 7, 3, 0);
        Check.due(0, x.calculate());
        Check.due(5, x.failed(0));
        Check.due("", Check.shown(x, 5));
        Check.due(1, x.fails(6, false));
        Check.due(0, x.fails(5, false));
        Check.due(1, x.calculate());
        Check.due("0.003", Check.shown(x, 6));
    }

    private static void mastersCount() {
        FormFields x = new FormFields();
        x.field(-1, Check.NUMBER, 1);
        x.field(-1, Check.NUMBER, 2);
        x.field(-1, Check.NUMBER, 1);
        x.field(-1, Check.BOX, 3);
        x.field(-1, Check.BOX, 3);
        x.formula(1, 0, 2, 4);
        x.value(4, 1);
        x.formula(2, 7, 500, 0);
        Check.due(2, x.calculate());
        Check.due("1.500", Check.shown(x, 1));
        x.formula(2, 0, 1, 1);
        Check.due(-1, x.calculate());
    }

    private static void fortyFormulas() {
        FormFields x = new FormFields();
        x.field(-1, Check.GROUP, 0);
        for (int i = 1; i < 40; i++) {
            x.field(0, Check.NUMBER, i);
        }
        for (int i = 1; i < 39; i++) {
            x.formula(i, 0, i + 1, i + 1);
        }
        x.formula(39, 7, 1000, 0);
        Check.due(38, x.calculate());
        Check.due(1, x.failed(-1));
        Check.due(9, x.failed(0));
        Check.due("536870912.000", Check.shown(x, 10));
        Check.due("", Check.shown(x, 9));
        Check.due("0.000", Check.shown(x, 8));
        x.formula(39, 6, 0, 0);
        Check.due(-2, x.calculate());
    }
}
