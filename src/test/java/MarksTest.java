/** Promises 14 to 17: appearance, mark, flatten, page. */
public final class MarksTest {
    public static void main(String[] args) {
        frameAndSigns();
        sides();
        cells();
        nothingFits();
        oneCell();
        allSigns();
        marksStay();
        wrongMarks();
        flattenToPage();
        pageOfMarksThatChange();
        fullPage();
        wrongFlatten();
        Check.end();
    }

    private static void marked(FormFields x, int i, int sign, int at, int y, int size) {
        Check.due(sign, x.mark(i, 0));
        Check.due(at, x.mark(i, 1));
        Check.due(y, x.mark(i, 2));
        Check.due(size, x.mark(i, 3));
    }

    private static void paged(FormFields x, int i, int sign, int at, int y, int size, int field) {
        Check.due(sign, x.page(i, 0));
        Check.due(at, x.page(i, 1));
        Check.due(y, x.page(i, 2));
        Check.due(size, x.page(i, 3));
        Check.due(field, x.page(i, 4));
    }

    private static void frameAndSigns() {
        FormFields x = new FormFields();
        x.field(-1, Check.NUMBER, 1);
        Check.due(1, x.appearance(0));
        marked(x, 0, 0, 0, 0, 0);
        Check.type(x, 0, "-1000");
        x.set(0, 3, 1);
        x.set(0, 4, 1);
        Check.due(9, x.appearance(0));
        marked(x, 0, 0, 0, 0, 0);
        String shown = "-1,000.0";
        for (int k = 0; k < 8; k++) {
            marked(x, k + 1, shown.charAt(k), 48 * k, 32, 96);
        }
        x.field(-1, Check.BOX, 2);
        Check.due(1, x.appearance(1));
        x.value(1, 1);
        x.set(1, 6, 61);
        Check.due(2, x.appearance(1));
        marked(x, 1, 88, 0, 6, 48);
        x.field(-1, Check.RADIO, 3);
        x.option(2, 90);
        Check.due(1, x.appearance(2));
        x.value(2, 0);
        Check.due(3, x.appearance(2));
        marked(x, 2, 48, 48, 32, 96);
    }

    private static void sides() {
        FormFields x = new FormFields();
        x.field(-1, Check.TEXT, 1);
        x.field(-1, Check.TEXT, 1);
        Check.type(x, 0, "abc");
        x.set(1, 5, 151);
        int[] begin = {0, 3, 7};
        for (int side = 0; side <= 2; side++) {
            x.set(1, 7, side);
            Check.due(4, x.appearance(1));
            for (int k = 0; k < 3; k++) {
                marked(x, k + 1, 97 + k, begin[side] + 48 * k, 32, 96);
            }
        }
        Check.due(4, x.appearance(0));
        marked(x, 1, 97, 0, 32, 96);
    }

    private static void cells() {
        FormFields x = new FormFields();
        x.field(-1, Check.TEXT, 1);
        Check.type(x, 0, "abc");
        x.set(0, 1, 7);
        x.set(0, 5, 200);
        x.set(0, 7, 2);
        Check.due(4, x.appearance(0));
        marked(x, 1, 97, 2, 56, 48);
        marked(x, 2, 98, 30, 56, 48);
        marked(x, 3, 99, 59, 56, 48);
        x.set(0, 1, 3);
        x.set(0, 5, 5);
        Check.due(4, x.appearance(0));
        marked(x, 1, 97, -1, 77, 6);
        marked(x, 2, 98, 0, 77, 6);
        marked(x, 3, 99, 2, 77, 6);
        x.set(0, 5, 0);
        Check.due(4, x.appearance(0));
        marked(x, 3, 99, -1, 77, 6);
    }

    private static void nothingFits() {
        FormFields x = new FormFields();
        x.field(-1, Check.TEXT, 1);
        Check.type(x, 0, "abcd");
        x.set(0, 5, 7);
        x.set(0, 6, 3);
        int[] begin = {0, -2, -5};
        for (int side = 0; side <= 2; side++) {
            x.set(0, 7, side);
            Check.due(5, x.appearance(0));
            marked(x, 1, 97, begin[side], -1, 6);
            marked(x, 4, 100, begin[side] + 9, -1, 6);
        }
        x.set(0, 6, 0);
        x.appearance(0);
        marked(x, 1, 97, -5, -3, 6);
    }

    private static void oneCell() {
        FormFields x = new FormFields();
        x.field(-1, Check.TEXT, 1);
        x.set(0, 1, 1);
        x.set(0, 5, 47);
        Check.due(48, x.size(0));
        x.value(0, 97);
        Check.due(2, x.appearance(0));
        marked(x, 1, 97, 11, 56, 48);
    }

    private static void allSigns() {
        FormFields x = new FormFields();
        x.field(-1, Check.TEXT, 1);
        for (int i = 0; i < 30; i++) {
            x.value(0, 65 + i);
        }
        Check.due(31, x.appearance(0));
        marked(x, 30, 94, 696, 56, 48);
        x.set(0, 1, 30);
        x.set(0, 5, 100000);
        Check.due(31, x.appearance(0));
        marked(x, 30, 94, 98308, 32, 96);
    }

    private static void marksStay() {
        FormFields x = new FormFields();
        x.field(-1, Check.TEXT, 1);
        x.field(-1, Check.TEXT, 2);
        Check.type(x, 0, "ab");
        x.appearance(0);
        x.value(0, -1);
        x.set(0, 5, 3);
        x.size(1);
        x.shown(1, 0);
        marked(x, 2, 98, 48, 32, 96);
        Check.refused(Check.NO_SUCH, () -> x.appearance(2));
        marked(x, 2, 98, 48, 32, 96);
        x.appearance(1);
        Check.refused(Check.INDEX, () -> x.mark(1, 0));
    }

    private static void wrongMarks() {
        FormFields x = new FormFields();
        x.field(-1, Check.GROUP, 1);
        x.field(-1, Check.TEXT, 2);
        Check.refused(Check.INDEX, () -> x.mark(0, 0));
        Check.refused(Check.ARGUMENT, () -> x.appearance(0));
        Check.refused(Check.NO_SUCH, () -> x.appearance(2));
        Check.refused(Check.NO_SUCH, () -> x.appearance(-1));
        x.appearance(1);
        Check.refused(Check.INDEX, () -> x.mark(1, 0));
        Check.refused(Check.INDEX, () -> x.mark(-1, 0));
        Check.refused(Check.INDEX, () -> x.mark(0, 4));
        Check.refused(Check.INDEX, () -> x.mark(0, -1));
        Check.refused(Check.INDEX, () -> x.mark(Integer.MIN_VALUE, 0));
        Check.refused(Check.INDEX, () -> x.page(0, 0));
        x.flatten(1);
        Check.refused(Check.INDEX, () -> x.page(1, 0));
        Check.refused(Check.INDEX, () -> x.page(-1, 0));
        Check.refused(Check.INDEX, () -> x.page(0, 5));
        Check.refused(Check.INDEX, () -> x.page(0, -1));
        Check.refused(Check.INDEX, () -> x.page(Integer.MAX_VALUE, 0));
    }

    private static void flattenToPage() {
        FormFields x = new FormFields();
        x.field(-1, Check.TEXT, 1);
        x.field(-1, Check.TEXT, 1);
        x.field(-1, Check.BOX, 2);
        Check.type(x, 0, "ab");
        x.set(1, 5, 50);
        x.lock(0, true);
        Check.due(3, x.flatten(1));
        x.value(2, 1);
        Check.due(5, x.flatten(2));
        Check.due(8, x.flatten(0));
        paged(x, 0, 0, 0, 0, 0, 1);
        paged(x, 2, 98, 24, 56, 48, 1);
        paged(x, 3, 0, 0, 0, 0, 2);
        paged(x, 4, 88, 0, 32, 96, 2);
        paged(x, 5, 0, 0, 0, 0, 0);
        paged(x, 7, 98, 48, 32, 96, 0);
        Check.refused(Check.STATE, () -> x.flatten(0));
        Check.refused(Check.STATE, () -> x.flatten(1));
        Check.refused(Check.INDEX, () -> x.page(8, 0));
        Check.refused(Check.INDEX, () -> x.mark(0, 0));
    }

    private static void pageOfMarksThatChange() {
        FormFields x = new FormFields();
        x.field(-1, Check.TEXT, 1);
        x.field(-1, Check.TEXT, 1);
        Check.type(x, 0, "ab");
        Check.due(3, x.appearance(0));
        x.value(0, 99);
        Check.due(4, x.flatten(0));
        marked(x, 2, 98, 48, 32, 96);
        Check.refused(Check.INDEX, () -> x.mark(3, 0));
        Check.retype(x, 1, "z");
        x.set(0, 5, 1);
        paged(x, 3, 99, 96, 32, 96, 0);
        Check.due("z", Check.shown(x, 0));
        Check.due(2, x.appearance(0));
        marked(x, 1, 122, 0, 77, 6);
    }

    private static void fullPage() {
        FormFields x = new FormFields();
        for (int i = 0; i < 14; i++) {
            x.field(-1, Check.TEXT, 1);
        }
        for (int i = 0; i < 30; i++) {
            x.value(0, 65 + i);
        }
        for (int i = 0; i < 12; i++) {
            Check.due(31 * (i + 1), x.flatten(i));
        }
        Check.refused(Check.UNSUPPORTED, () -> x.flatten(12));
        Check.refused(Check.STATE, () -> x.flatten(11));
        Check.refused(Check.INDEX, () -> x.page(372, 0));
        x.value(12, -1);
        for (int i = 0; i < 28; i++) {
            x.value(12, 65);
        }
        Check.refused(Check.UNSUPPORTED, () -> x.flatten(12));
        x.value(12, -1);
        for (int i = 0; i < 27; i++) {
            x.value(12, 65 + i);
        }
        Check.due(400, x.flatten(12));
        paged(x, 399, 91, 624, 56, 48, 12);
        x.value(13, -1);
        Check.refused(Check.UNSUPPORTED, () -> x.flatten(13));
        Check.due(1, x.value(13, 65));
    }

    private static void wrongFlatten() {
        FormFields x = new FormFields();
        x.field(-1, Check.GROUP, 1);
        Check.refused(Check.ARGUMENT, () -> x.flatten(0));
        Check.refused(Check.NO_SUCH, () -> x.flatten(1));
        Check.refused(Check.NO_SUCH, () -> x.flatten(-1));
        Check.refused(Check.INDEX, () -> x.page(0, 0));
    }
}
