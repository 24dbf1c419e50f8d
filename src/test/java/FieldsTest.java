/** Promises 1 and 2: a new object, field. */
public final class FieldsTest {
    public static void main(String[] args) {
        newObject();
        numbersAndFullNames();
        wrongFields();
        whichExceptionIsFirst();
        fortyFields();
        deepTree();
        Check.end();
    }

    private static void newObject() {
        FormFields x = new FormFields();
        Check.refused(Check.NO_SUCH, () -> x.shown(0, 0));
        Check.due(0, x.write());
        Check.due(0, x.calculate());
        Check.due(0, x.failed(-1));
        Check.due(0, x.read(-1));
        Check.refused(Check.INDEX, () -> x.mark(0, 0));
        Check.refused(Check.INDEX, () -> x.page(0, 0));
        Check.refused(Check.ARRAY_INDEX, () -> x.at(0));
        FormFields y = new FormFields();
        y.field(-1, Check.TEXT, 1);
        Check.refused(Check.NO_SUCH, () -> x.shown(0, 0));
    }

    private static void numbersAndFullNames() {
        FormFields x = new FormFields();
        Check.due(0, x.field(-1, Check.GROUP, 1));
        Check.due(1, x.field(0, Check.TEXT, 2));
        Check.due(2, x.field(-1, Check.GROUP, 1));
        Check.due(3, x.field(2, Check.TEXT, 2));
        Check.due(4, x.field(-1, Check.TEXT, 2));
        Check.due(5, x.field(0, Check.GROUP, 999));
        Check.due(6, x.field(5, Check.TEXT, 0));
        Check.due(7, x.field(2, Check.GROUP, 999));
        Check.due(8, x.field(7, Check.TEXT, 0));
        Check.type(x, 3, "two");
        Check.type(x, 8, "deep");
        Check.due("two", Check.shown(x, 1));
        Check.due("", Check.shown(x, 4));
        Check.due("deep", Check.shown(x, 6));
        Check.due("1.2=two\n2=\n1.999.0=deep\n", Check.data(x));
    }

    private static void wrongFields() {
        FormFields x = new FormFields();
        Check.refused(Check.NO_SUCH, () -> x.field(0, Check.TEXT, 1));
        Check.refused(Check.NO_SUCH, () -> x.field(-2, Check.TEXT, 1));
        Check.refused(Check.ARGUMENT, () -> x.field(-1, -1, 1));
        Check.refused(Check.ARGUMENT, () -> x.field(-1, 6, 1));
        Check.refused(Check.ARGUMENT, () -> x.field(-1, Check.TEXT, -1));
        Check.refused(Check.ARGUMENT, () -> x.field(-1, Check.TEXT, 1000));
        x.field(-1, Check.TEXT, 1);
        for (int kind = 0; kind <= 5; kind++) {
            int wrong = kind;
            if (wrong != Check.TEXT) {
                Check.refused(Check.STATE, () -> x.field(-1, wrong, 1));
            }
        }
        Check.refused(Check.ARGUMENT, () -> x.field(0, Check.TEXT, 2));
        x.field(-1, Check.GROUP, 2);
        Check.refused(Check.STATE, () -> x.field(-1, Check.NUMBER, 2));
        x.field(1, Check.BOX, 1);
        x.field(-1, Check.GROUP, 2);
        Check.refused(Check.STATE, () -> x.field(3, Check.RADIO, 1));
        Check.due(4, x.field(3, Check.BOX, 1));
    }

    private static void whichExceptionIsFirst() {
        FormFields x = new FormFields();
        Check.refused(Check.NO_SUCH, () -> x.field(5, 9, 5000));
        x.field(-1, Check.TEXT, 1);
        Check.refused(Check.ARGUMENT, () -> x.field(-1, 6, 1));
    }

    private static void fortyFields() {
        FormFields x = new FormFields();
        for (int i = 0; i < 40; i++) {
            Check.due(i, x.field(-1, Check.TEXT, i));
        }
        Check.refused(Check.UNSUPPORTED, () -> x.field(-1, Check.TEXT, 40));
        Check.refused(Check.UNSUPPORTED, () -> x.field(-1, Check.TEXT, 39));
        Check.refused(Check.STATE, () -> x.field(-1, Check.BOX, 39));
        Check.refused(Check.ARGUMENT, () -> x.field(0, Check.TEXT, 40));
        Check.refused(Check.NO_SUCH, () -> x.field(40, Check.TEXT, 40));
        Check.due("", Check.shown(x, 39));
    }

    private static void deepTree() {
        FormFields x = new FormFields();
        StringBuilder name = new StringBuilder();
        for (int i = 0; i < 39; i++) {
            Check.due(i, x.field(i - 1, Check.GROUP, 961 + i));
            name.append(961 + i).append('.');
        }
        Check.due(39, x.field(38, Check.NUMBER, 100));
        Check.due(161, x.write());
        Check.due(name + "100=\n", Check.data(x));
        Check.due(1, Check.read(x, name + "100=7\n"));
        Check.due("7.000", Check.shown(x, 39));
    }
}
