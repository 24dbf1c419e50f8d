import java.util.function.Supplier;

/** The boundary cases of promises 8 to 10, each sentence in a test of its own. */
public final class CalculateEdgesTest {
    private static final String FAR = "999999999.999";

    public static void main(String[] args) {
        sumNotBeyond();
        differenceNotBeyond();
        productNotBeyond();
        quotientNotBeyond();
        groupSumNotBeyond();
        lesserAndGreater();
        cutOffTowardsZero();
        byZero();
        neededWithoutAmount();
        toldToFail();
        groupAtAnyDepth();
        groupWithoutNumbers();
        eachMasterOnce();
        leastFirst();
        otherSignsThanBefore();
        lockedAndFlatAreWritten();
        ringOfItself();
        ringOfAGroup();
        leastInARing();
        nothingIsWorkedOut();
        failedFromTo();
        failedInOrder();
        failedOfTheLatest();
        failsOfNumbersAlone();
        failsWasSo();
        Check.end();
    }

    /** Numbers 0 and 1 with these signs, and number 2, "77", with the formula. */
    private static FormFields ofTwo(int op, String a, String b) {
        FormFields x = new FormFields();
        for (int i = 0; i < 3; i++) {
            x.field(-1, Check.NUMBER, i);
        }
        Check.type(x, 0, a);
        Check.type(x, 1, b);
        Check.type(x, 2, "77");
        x.formula(2, op, 0, 1);
        return x;
    }

    private static String signsOf(FormFields x, int line) {
        return Check.data(x).split("\n", -1)[line].split("=", -1)[1];
    }

    private static void comesTo(String due, int op, String a, String b) {
        FormFields x = ofTwo(op, a, b);
        Check.due(1, x.calculate());
        Check.due(0, x.failed(-1));
        Check.due(due, signsOf(x, 2));
        Check.due(a, signsOf(x, 0));
        Check.due(b, signsOf(x, 1));
    }

    private static void fails(int op, String a, String b) {
        FormFields x = ofTwo(op, a, b);
        Check.due(0, x.calculate());
        Check.due(1, x.failed(-1));
        Check.due(2, x.failed(0));
        Check.due("77", signsOf(x, 2));
    }

    // "or beyond 999999999999 either way", of a sum
    private static void sumNotBeyond() {
        comesTo("999999999.998", 0, "999999999.998", "0");
        comesTo(FAR, 0, "999999999.998", "0.001");
        fails(0, FAR, "0.001");
        comesTo("-" + FAR, 0, "-999999999.998", "-0.001");
        fails(0, "-" + FAR, "-0.001");
        fails(0, FAR, FAR);
        fails(0, "-" + FAR, "-" + FAR);
        comesTo("0", 0, FAR, "-" + FAR);
    }

    private static void differenceNotBeyond() {
        comesTo(FAR, 1, "999999999.998", "-0.001");
        fails(1, FAR, "-0.001");
        comesTo("-" + FAR, 1, "-999999999.998", "0.001");
        fails(1, "-" + FAR, "0.001");
        fails(1, FAR, "-" + FAR);
        fails(1, "-" + FAR, FAR);
        comesTo("0", 1, FAR, FAR);
    }

    /** What is cut off does not count: 2906.161 times 344096.559 are 999999999999.999 thousandths. */
    private static void productNotBeyond() {
        comesTo(FAR, 2, FAR, "1");
        comesTo("-" + FAR, 2, FAR, "-1");
        comesTo("-" + FAR, 2, "-1", FAR);
        comesTo(FAR, 2, "-1", "-" + FAR);
        fails(2, FAR, "1.001");
        fails(2, "1.001", FAR);
        fails(2, "-1.001", FAR);
        fails(2, "1.001", "-" + FAR);
        fails(2, FAR, FAR);
        fails(2, FAR, "-" + FAR);
        fails(2, "-" + FAR, "-" + FAR);
        fails(2, "1000000", "1000");
        fails(2, "1000", "1000000");
        fails(2, "-1000000", "1000");
        comesTo("999999000", 2, "999999", "1000");
        comesTo("999999999", 2, "999999.999", "1000");
        comesTo(FAR, 2, "333333333.333", "3");
        fails(2, "333333333.334", "3");
        comesTo(FAR, 2, "2906.161", "344096.559");
        comesTo("-" + FAR, 2, "344096.559", "-2906.161");
        comesTo(FAR, 2, "666666666.666", "1.5");
        fails(2, "666666666.667", "1.5");
        comesTo("-" + FAR, 2, "-666666666.666", "1.5");
        fails(2, "666666666.667", "-1.5");
        comesTo("0", 2, FAR, "0");
        comesTo("0", 2, "", "-" + FAR);
        comesTo("999999.999", 2, FAR, "0.001");
        comesTo("-999999.999", 2, FAR, "-0.001");
        comesTo("-999999.999", 2, "-0.001", FAR);
        fails(2, "536870912", "34359738.368");
        fails(2, "-34359738.368", "536870912");
    }

    private static void quotientNotBeyond() {
        comesTo(FAR, 3, FAR, "1");
        comesTo("-" + FAR, 3, FAR, "-1");
        fails(3, FAR, "0.999");
        fails(3, FAR, "-0.999");
        fails(3, "-" + FAR, "0.001");
        comesTo("999999999", 3, "999999.999", "0.001");
        fails(3, "1000000", "0.001");
        comesTo("-999999999", 3, "-999999.999", "0.001");
        fails(3, "1000000", "-0.001");
        comesTo("1", 3, FAR, FAR);
        comesTo("0", 3, "0.001", FAR);
    }

    /** Number 5 is the sum of the group with numbers 1 to 4. */
    private static FormFields inGroup(String... signs) {
        FormFields x = new FormFields();
        x.field(-1, Check.GROUP, 0);
        for (int i = 0; i < 4; i++) {
            x.field(0, Check.NUMBER, i);
        }
        x.field(-1, Check.NUMBER, 5);
        x.formula(5, 6, 0, 0);
        for (int i = 0; i < signs.length; i++) {
            Check.type(x, i + 1, signs[i]);
        }
        return x;
    }

    private static void groupSumNotBeyond() {
        FormFields x = inGroup(FAR, "0.001", "-0.001");
        Check.due(1, x.calculate());
        Check.due(FAR, signsOf(x, 4));
        FormFields y = inGroup(FAR, FAR, "0.001");
        Check.due(0, y.calculate());
        Check.due(5, y.failed(0));
        Check.due("", signsOf(y, 4));
        FormFields z = inGroup("-" + FAR, "-0.001");
        Check.due(0, z.calculate());
        Check.due(5, z.failed(0));
        FormFields w = inGroup("-999999999.998", "-0.001");
        Check.due(1, w.calculate());
        Check.due("-" + FAR, signsOf(w, 4));
        FormFields v = inGroup(FAR, FAR, "-" + FAR, "-" + FAR);
        Check.due(1, v.calculate());
        Check.due("0", signsOf(v, 4));
    }

    // "4 the lesser, 5 the greater"
    private static void lesserAndGreater() {
        comesTo("-" + FAR, 4, FAR, "-" + FAR);
        comesTo(FAR, 5, FAR, "-" + FAR);
        comesTo("1.999", 4, "2", "1.999");
        comesTo("2", 5, "2", "1.999");
        comesTo("-2", 4, "-2", "-1.999");
        comesTo("-1.999", 5, "-2", "-1.999");
        comesTo("0", 4, "", "0.001");
        comesTo("0", 5, "", "-0.001");
        comesTo("3", 4, "3", "3.000");
        comesTo("3", 5, "3.0", "3");
    }

    // "(thousandths, cut off towards 0)"
    private static void cutOffTowardsZero() {
        comesTo("0", 2, "0.001", "0.999");
        comesTo("0", 2, "-0.001", "0.999");
        comesTo("0", 2, "0.001", "-0.999");
        comesTo("0.001", 2, "0.001", "1.999");
        comesTo("-0.001", 2, "-0.001", "1.999");
        comesTo("-1.998", 2, "-1.001", "1.997");
        comesTo("1.998", 2, "-1.001", "-1.997");
        comesTo("0.666", 3, "2", "3");
        comesTo("-0.666", 3, "-2", "3");
        comesTo("-0.666", 3, "2", "-3");
        comesTo("0.666", 3, "-2", "-3");
        comesTo("0", 3, "0.001", "1.001");
        comesTo("0", 3, "-0.001", "1.001");
        comesTo("0.001", 3, "0.001", "1");
        comesTo("-0.001", 3, "0.001", "-0.999");
    }

    // "by 0"
    private static void byZero() {
        for (String zero : new String[] {"0", "-0", "", "0.000", "000000000", "-0.0"}) {
            fails(3, "1", zero);
            fails(3, "0", zero);
            fails(3, "", zero);
            comesTo("0", 2, "1", zero);
        }
        comesTo("1000", 3, "1", "0.001");
        comesTo("-1000", 3, "1", "-0.001");
        FormFields x = new FormFields();
        x.field(-1, Check.BOX, 0);
        x.field(-1, Check.NUMBER, 1);
        x.formula(1, 3, 0, 0);
        Check.due(0, x.calculate());
        Check.due(1, x.failed(0));
        x.value(0, 1);
        Check.due(1, x.calculate());
        Check.due("1", signsOf(x, 1));
    }

    // "when something that it NEEDS has no AMOUNT"
    private static void neededWithoutAmount() {
        for (String none : new String[] {"-", ".", "1.", ".1", "1234567890", "1.2345", "1-1"}) {
            for (int op = 0; op <= 5; op++) {
                fails(op, none, "1");
                fails(op, "1", none);
                fails(op, none, none);
                fails(op, none, "");
            }
            for (int i = 0; i < 4; i++) {
                String[] signs = {"1", "1", "1", "1"};
                signs[i] = none;
                FormFields x = inGroup(signs);
                Check.due(0, x.calculate());
                Check.due(5, x.failed(0));
            }
        }
        FormFields x = Forms.typed(Check.NUMBER, "1.");
        x.formula(0, 7, 5, 0);
        Check.due(1, x.calculate());
        Check.due("0.005", signsOf(x, 0));
    }

    // "One FAILS when it is told to"; "what it comes to is written, unless it FAILS"
    private static void toldToFail() {
        FormFields x = ofTwo(0, "1", "2");
        x.formula(1, 0, 2, 2);
        x.fails(2, true);
        x.formula(2, 7, 5000, 0);
        Check.due(1, x.calculate());
        Check.due(1, x.failed(-1));
        Check.due(2, x.failed(0));
        Check.due("0=1\n1=154\n2=77\n", Check.data(x));
        x.fails(2, false);
        Check.due(2, x.calculate());
        Check.due("0=1\n1=10\n2=5\n", Check.data(x));
    }

    // "the sum of all NUMBERS in GROUP a, at any depth"
    private static void groupAtAnyDepth() {
        FormFields x = new FormFields();
        for (int i = 0; i < 37; i++) {
            x.field(i - 1, Check.GROUP, 1);
        }
        x.field(36, Check.NUMBER, 2);
        x.field(-1, Check.NUMBER, 3);
        x.field(35, Check.NUMBER, 4);
        Check.type(x, 37, "1.5");
        Check.type(x, 39, "2");
        x.set(38, 3, 1);
        for (int group = 0; group < 37; group++) {
            x.formula(38, 6, group, 0);
            Check.due(group == 0 || group == 36 ? 1 : 0, x.calculate());
            Check.due(group == 36 ? "1.5" : "3.5", Check.shown(x, 38));
        }
    }

    private static void groupWithoutNumbers() {
        FormFields x = Forms.kinds();
        x.field(0, Check.BOX, 1);
        x.field(0, Check.TEXT, 2);
        x.field(0, Check.GROUP, 3);
        x.value(6, 1);
        Check.type(x, 7, "5");
        x.formula(5, 6, 0, 0);
        Check.due(1, x.calculate());
        Check.due(0, x.failed(-1));
        Check.due("0.000", Check.shown(x, 5));
    }

    // "(each MASTER once)"
    private static void eachMasterOnce() {
        FormFields x = new FormFields();
        x.field(-1, Check.GROUP, 0);
        x.field(0, Check.GROUP, 1);
        x.field(0, Check.GROUP, 1);
        x.field(1, Check.NUMBER, 2);
        x.field(1, Check.NUMBER, 2);
        x.field(2, Check.NUMBER, 2);
        x.field(-1, Check.NUMBER, 9);
        Check.type(x, 5, "3");
        for (int group = 0; group <= 2; group++) {
            x.value(6, -1);
            x.formula(6, 6, group, 0);
            Check.due(1, x.calculate());
            Check.due("3.000", Check.shown(x, 6));
        }
        x.formula(6, 0, 3, 5);
        Check.due(1, x.calculate());
        Check.due("6.000", Check.shown(x, 6));
    }

    // "again and again the least MASTER whose FORMULA NEEDS none that is not worked out yet"
    private static void leastFirst() {
        FormFields x = new FormFields();
        for (int i = 0; i < 8; i++) {
            x.field(-1, Check.NUMBER, i);
            x.fails(i, true);
        }
        x.formula(7, 7, 1, 0);
        x.formula(6, 0, 0, 0);
        x.formula(5, 7, 1, 0);
        x.formula(3, 0, 7, 5);
        x.formula(2, 7, 1, 0);
        x.formula(1, 0, 3, 4);
        x.formula(0, 0, 5, 5);
        x.calculate();
        int[] due = {2, 5, 0, 6, 7, 3, 1};
        Check.due(due.length, x.failed(-1));
        for (int i = 0; i < due.length; i++) {
            Check.due(due[i], x.failed(i));
        }
    }

    // "how many have other SIGNS than before"
    private static void otherSignsThanBefore() {
        String[][] rows = {{"", "1"}, {"1.5", "0"}, {"1.50", "1"}, {"01.5", "1"}, {"1.5.", "1"}, {"1.", "1"},
            {"1", "1"}, {"1.51", "1"}, {"2.5", "1"}, {"-1.5", "1"}, {"1.500", "1"}};
        for (String[] row : rows) {
            FormFields x = Forms.typed(Check.NUMBER, row[0]);
            x.formula(0, 7, 1500, 0);
            Check.due(Integer.parseInt(row[1]), x.calculate());
            Check.due("1=1.5\n", Check.data(x));
            Check.due(0, x.calculate());
        }
        Check.due(0, Forms.one(Check.NUMBER).calculate());
        FormFields x = new FormFields();
        for (int i = 0; i < 40; i++) {
            x.field(-1, Check.NUMBER, i);
            x.formula(i, 7, i, 0);
        }
        Check.due(40, x.calculate());
        x.formula(39, 7, 0, 0);
        Check.due(1, x.calculate());
        Check.due(0, x.calculate());
    }

    /** Nothing in "unless it FAILS" speaks of them. */
    private static void lockedAndFlatAreWritten() {
        FormFields x = Forms.one(Check.NUMBER);
        x.formula(0, 7, 1500, 0);
        x.lock(0, true);
        x.flatten(0);
        x.bounds(0, 0, 1);
        Check.due(1, x.calculate());
        Check.due("1=1.5\n", Check.data(x));
        Check.due(5, x.validate(0));
    }

    // "When some NEED each other in a ring": the smallest ring is of one
    private static void ringOfItself() {
        for (int op = 0; op <= 5; op++) {
            FormFields x = ofTwo(op, "1", "2");
            x.formula(2, op, 2, 0);
            Check.due(-3, x.calculate());
            x.formula(2, op, 0, 2);
            Check.due(-3, x.calculate());
            x.field(-1, Check.NUMBER, 2);
            x.formula(2, op, 0, 3);
            Check.due(-3, x.calculate());
            x.formula(2, op, 0, 1);
            Check.due(1, x.calculate());
        }
    }

    private static void ringOfAGroup() {
        FormFields x = new FormFields();
        x.field(-1, Check.GROUP, 0);
        x.field(0, Check.GROUP, 1);
        x.field(1, Check.NUMBER, 2);
        x.field(-1, Check.NUMBER, 3);
        x.formula(2, 6, 0, 0);
        Check.due(-3, x.calculate());
        x.formula(2, 6, 1, 0);
        Check.due(-3, x.calculate());
        x.formula(2, 0, 3, 3);
        x.formula(3, 6, 0, 0);
        Check.due(-3, x.calculate());
        x.formula(2, 7, 1, 0);
        Check.due(2, x.calculate());
    }

    // "-1 less the least MASTER in a ring"
    private static void leastInARing() {
        FormFields x = new FormFields();
        for (int i = 0; i < 40; i++) {
            x.field(-1, Check.NUMBER, i);
        }
        x.formula(0, 0, 38, 38);
        x.formula(38, 0, 39, 0);
        Check.due(-1, x.calculate());
        x.formula(38, 0, 39, 39);
        x.formula(39, 0, 38, 1);
        Check.due(-39, x.calculate());
        x.formula(39, 0, 39, 1);
        Check.due(-40, x.calculate());
        x.formula(20, 0, 21, 22);
        x.formula(22, 0, 23, 23);
        x.formula(23, 0, 20, 39);
        Check.due(-21, x.calculate());
        x.formula(39, -1, 0, 0);
        Check.due(-21, x.calculate());
        x.formula(23, 0, 39, 39);
        Check.due(5, x.calculate());
        for (int i = 0; i < 40; i++) {
            x.formula(i, 0, (i + 39) % 40, 0);
        }
        Check.due(-1, x.calculate());
    }

    // "and nothing is worked out"
    private static void nothingIsWorkedOut() {
        FormFields x = ofTwo(0, "1", "2");
        x.formula(0, 7, 5, 0);
        x.field(-1, Check.NUMBER, 3);
        x.formula(3, 0, 3, 3);
        Check.due(-4, x.calculate());
        Check.due("0=1\n1=2\n2=77\n3=\n", Check.data(x));
        Supplier<FormFields> ringed = () -> {
            FormFields y = Forms.rich();
            y.formula(Forms.NUMBER, 0, Forms.RESULT, Forms.RESULT);
            return y;
        };
        Probe.alike(ringed, () -> {
            FormFields y = ringed.get();
            Check.due(-1 - Forms.NUMBER, y.calculate());
            return y;
        });
    }

    // "i = -1: how many. IndexOutOfBoundsException."
    private static void failedFromTo() {
        for (int count : new int[] {0, 1, 2, 30}) {
            int failing = count;
            Supplier<FormFields> made = () -> {
                FormFields x = new FormFields();
                for (int i = 0; i < failing; i++) {
                    x.field(-1, Check.NUMBER, i);
                    x.formula(i, 7, 1, 0);
                    x.fails(i, true);
                }
                x.calculate();
                return x;
            };
            FormFields x = made.get();
            Check.due(count, x.failed(-1));
            for (int i = 0; i < count; i++) {
                Check.due(i, x.failed(i));
            }
            for (int i : new int[] {Integer.MIN_VALUE, -2, count, count + 1, Integer.MAX_VALUE}) {
                Probe.refused(Check.INDEX, made, y -> y.failed(i));
            }
        }
        FormFields forty = new FormFields();
        for (int i = 0; i < 40; i++) {
            forty.field(-1, Check.NUMBER, i);
        }
        for (int i = 0; i < 39; i++) {
            forty.formula(i, 3, 39, 39);
        }
        forty.formula(39, 7, 0, 0);
        Check.due(1, forty.calculate());
        Check.due(39, forty.failed(-1));
        Check.due(38, forty.failed(38));
        Check.refused(Check.INDEX, () -> forty.failed(39));
        forty.fails(39, true);
        Check.due(0, forty.calculate());
        Check.due(40, forty.failed(-1));
        Check.due(39, forty.failed(0));
        Check.due(38, forty.failed(39));
        Check.refused(Check.INDEX, () -> forty.failed(40));
        Probe.refused(Check.INDEX, Forms::rich, x -> x.failed(1));
        Probe.refused(Check.INDEX, Forms::rich, x -> x.failed(-2));
    }

    // "The MASTER of the i-th FORMULA that FAILED .., in order"
    private static void failedInOrder() {
        FormFields x = new FormFields();
        x.field(-1, Check.NUMBER, 0);
        x.field(-1, Check.NUMBER, 1);
        x.field(-1, Check.NUMBER, 2);
        x.field(-1, Check.NUMBER, 0);
        x.formula(3, 3, 2, 2);
        x.formula(1, 3, 3, 3);
        x.formula(2, 7, 0, 0);
        Check.due(1, x.calculate());
        Check.due(2, x.failed(-1));
        Check.due(0, x.failed(0));
        Check.due(1, x.failed(1));
        x.formula(0, 3, 1, 1);
        x.formula(1, 3, 2, 2);
        Check.due(0, x.calculate());
        Check.due(1, x.failed(0));
        Check.due(0, x.failed(1));
    }

    // "in the latest calculate() (without a ring)"
    private static void failedOfTheLatest() {
        FormFields x = ofTwo(3, "1", "");
        Check.due(0, x.failed(-1));
        x.calculate();
        Check.due(2, x.failed(0));
        Check.type(x, 1, "1");
        Check.due(2, x.failed(0));
        x.formula(1, 0, 1, 1);
        Check.due(-2, x.calculate());
        Check.due(1, x.failed(-1));
        Check.due(2, x.failed(0));
        x.formula(1, -1, 0, 0);
        Check.due(1, x.failed(-1));
        Check.due(1, x.calculate());
        Check.due(0, x.failed(-1));
        Check.refused(Check.INDEX, () -> x.failed(0));
        x.formula(1, 0, 1, 1);
        Check.due(-2, x.calculate());
        Check.due(0, x.failed(-1));
    }

    // "IllegalArgumentException: it is no NUMBER."
    private static void failsOfNumbersAlone() {
        for (int kind = 0; kind <= 4; kind++) {
            int field = kind;
            Probe.allRefused(Check.ARGUMENT, Forms::kinds, x -> x.fails(field, true), x -> x.fails(field, false));
        }
        Check.due(0, Forms.kinds().fails(Check.NUMBER, true));
    }

    // "FAILS from now on, or not: what it was (1, 0)"
    private static void failsWasSo() {
        FormFields x = Forms.one(Check.NUMBER);
        x.field(-1, Check.NUMBER, 1);
        Check.due(0, x.fails(0, false));
        Check.due(0, x.fails(0, true));
        Check.due(1, x.fails(1, true));
        Check.due(1, x.fails(0, true));
        Check.due(0, x.calculate());
        Check.due(0, x.failed(-1));
        x.formula(1, 7, 1, 0);
        for (int i = 0; i < 2; i++) {
            Check.due(0, x.calculate());
            Check.due(1, x.failed(-1));
        }
        Check.due(1, x.fails(1, false));
        Check.due(1, x.failed(-1));
        Check.due(0, x.fails(0, false));
        Check.due(1, x.calculate());
        Check.due(0, x.failed(-1));
    }
}
