import java.util.function.Supplier;

/** The boundary cases of promises 14 to 17, each sentence in a test of its own. */
public final class MarkEdgesTest {
    private static final String THIRTY = "abcdefghijklmnopqrstuvwxyz0123";
    private static final int[] NO_FIELDS = {Integer.MIN_VALUE, -1, Forms.COUNT, 40, Integer.MAX_VALUE};

    public static void main(String[] args) {
        noSuchField();
        noGroup();
        howMany();
        frame();
        beginningBySide();
        leftBelowZero();
        yFromHeight();
        cells();
        cellsNarrowerThanSigns();
        firstAndLastOfThirtyCells();
        ofItsOwnWidthHeightAndSide();
        sizeOfMarks();
        markFromTo();
        markPartFromTo();
        noMarksAtFirst();
        madeLast();
        tellingChangesNothing();
        behindThoseOfThePage();
        flatTwice();
        flatItself();
        fourHundred();
        refusedForRoomIsNotFlat();
        pageFromTo();
        pagePartFromTo();
        pageStays();
        whichIsNamedFirst();
        Check.end();
    }

    // "NoSuchElementException: there is no such field."
    private static void noSuchField() {
        for (int field : NO_FIELDS) {
            Probe.allRefused(Check.NO_SUCH, Forms::rich, x -> x.appearance(field), x -> x.flatten(field));
        }
    }

    // "IllegalArgumentException: a GROUP"
    private static void noGroup() {
        Probe.allRefused(Check.ARGUMENT, Forms::rich,
                x -> x.appearance(Forms.GROUP), x -> x.flatten(Forms.GROUP));
    }

    private static FormFields text(String signs, int width, int height, int side) {
        FormFields x = Forms.typed(Check.TEXT, signs);
        x.set(0, 5, width);
        x.set(0, 6, height);
        x.set(0, 7, side);
        return x;
    }

    // "The MARKS of a field are made: how many."
    private static void howMany() {
        for (int count = 0; count <= 30; count++) {
            FormFields x = Forms.typed(Check.TEXT, THIRTY.substring(0, count));
            Check.due(count + 1, x.appearance(0));
            for (int i = 0; i < count; i++) {
                Check.due(THIRTY.charAt(i), x.mark(i + 1, 0));
            }
            Check.refused(Check.INDEX, () -> x.mark(x.appearance(0), 0));
        }
        for (int kind = 1; kind <= 5; kind++) {
            Check.due(1, Forms.one(kind).appearance(0));
        }
        FormFields x = Forms.rich();
        int[] due = {4, 4, 2, 3, 4, 4, 6, 15, 2, 2, 2};
        for (int field = 1; field < Forms.COUNT; field++) {
            Check.due(due[field - 1], x.appearance(field));
        }
    }

    // "first 0 at (0, 0) of size 0, the frame"
    private static void frame() {
        FormFields x = text("a", 7, 3, 2);
        for (String signs : new String[] {"", "abc"}) {
            Check.retype(x, 0, signs);
            x.appearance(0);
            for (int what = 0; what <= 3; what++) {
                Check.due(0, x.mark(0, what));
            }
            x.set(0, 1, 3);
        }
    }

    private static void xs(FormFields x, int... due) {
        x.appearance(0);
        for (int k = 0; k < due.length; k++) {
            Check.due(due[k], x.mark(k + 1, 1));
        }
    }

    // "k SIZE / 2 behind the beginning, which is 0, half of what is left of the WIDTH, or all of it, by the SIDE"
    private static void beginningBySide() {
        int[][] middleAndAll = {{144, 0, 0}, {145, 0, 1}, {146, 1, 2}, {147, 1, 3}, {100000, 49928, 99856}};
        for (int[] row : middleAndAll) {
            xs(text("abc", row[0], 120, 0), 0, 48, 96);
            xs(text("abc", row[0], 120, 1), row[1], row[1] + 48, row[1] + 96);
            xs(text("abc", row[0], 120, 2), row[2], row[2] + 48, row[2] + 96);
        }
        xs(text("abc", 143, 120, 1), 35, 59, 83);
        xs(text("abc", 143, 120, 2), 71, 95, 119);
    }

    // "(what is left may be below 0; divisions are cut off towards 0)"
    private static void leftBelowZero() {
        int[][] middleAndAll = {{10, 0, 1}, {9, 0, 0}, {8, 0, -1}, {7, -1, -2}, {6, -1, -3}, {5, -2, -4}, {0, -4, -9}};
        for (int[] row : middleAndAll) {
            xs(text("abc", row[0], 7, 0), 0, 3, 6);
            xs(text("abc", row[0], 7, 1), row[1], row[1] + 3, row[1] + 6);
            xs(text("abc", row[0], 7, 2), row[2], row[2] + 3, row[2] + 6);
        }
    }

    // "y (HEIGHT - SIZE) / 2"
    private static void yFromHeight() {
        int[][] rows = {{100000, 49952}, {122, 13}, {121, 12}, {120, 12}, {119, 35}, {60, 6}, {59, 17}, {7, 0}, {6, 0},
            {5, 0}, {4, -1}, {3, -1}, {2, -2}, {1, -2}, {0, -3}};
        for (int[] row : rows) {
            for (int side = 0; side <= 2; side++) {
                FormFields x = text("ab", 800, row[0], side);
                x.appearance(0);
                Check.due(row[1], x.mark(1, 2));
                Check.due(row[1], x.mark(2, 2));
                x.set(0, 1, 2);
                x.appearance(0);
                Check.due(row[1], x.mark(2, 2));
            }
        }
    }

    private static FormFields celled(String signs, int cells, int width, int height) {
        FormFields x = text(signs, width, height, 2);
        x.set(0, 1, cells);
        return x;
    }

    // "with CELLS (c) of SIGN k: k WIDTH / c + (WIDTH / c - SIZE / 2) / 2"
    private static void cells() {
        xs(celled("a", 1, 48, 120), 0);
        xs(celled("a", 1, 49, 120), 0);
        xs(celled("a", 1, 50, 120), 1);
        xs(celled("a", 1, 100, 120), 26);
        xs(celled("abc", 3, 144, 120), 0, 48, 96);
        xs(celled("abc", 3, 145, 120), 0, 48, 96);
        xs(celled("abc", 3, 146, 120), 0, 48, 97);
        xs(celled("abc", 3, 147, 120), 0, 49, 98);
        xs(celled("abc", 3, 150, 120), 1, 51, 101);
        xs(celled("abc", 4, 800, 120), 76, 276, 476);
        xs(celled("abc", 7, 800, 120), 33, 147, 261);
        for (int side = 0; side <= 2; side++) {
            FormFields x = celled("ab", 2, 100, 120);
            x.set(0, 7, side);
            xs(x, 1, 51);
        }
    }

    private static void cellsNarrowerThanSigns() {
        xs(celled("ab", 2, 6, 120), 0, 3);
        xs(celled("ab", 2, 5, 120), 0, 2);
        xs(celled("ab", 2, 4, 120), 0, 2);
        xs(celled("ab", 2, 3, 120), -1, 0);
        xs(celled("ab", 2, 1, 120), -1, -1);
        xs(celled("ab", 2, 0, 120), -1, -1);
    }

    private static void firstAndLastOfThirtyCells() {
        FormFields x = celled(THIRTY, 30, 100000, 100000);
        Check.due(31, x.appearance(0));
        Check.due(1642, x.mark(1, 1));
        Check.due(98308, x.mark(30, 1));
        Check.due(96, x.mark(30, 3));
        Check.due('3', x.mark(30, 0));
    }

    private static void ofItsOwnWidthHeightAndSide() {
        FormFields x = text("ab", 100, 120, 2);
        x.field(-1, Check.TEXT, 1);
        x.set(1, 5, 60);
        x.set(1, 6, 61);
        x.appearance(1);
        Check.due(0, x.mark(1, 1));
        Check.due(6, x.mark(1, 2));
        Check.due(48, x.mark(1, 3));
        x.appearance(0);
        Check.due(4, x.mark(1, 1));
        Check.due(12, x.mark(1, 2));
        Check.due(96, x.mark(1, 3));
    }

    // "The SIZE of a field is the greatest that FITS, else 6": the marks of what does not fit are of size 6
    private static void sizeOfMarks() {
        int[][] rows = {{96, 96}, {95, 48}, {48, 48}, {47, 24}, {24, 24}, {23, 12}, {12, 12}, {11, 6}, {6, 6}, {5, 6},
            {0, 6}};
        for (int[] row : rows) {
            FormFields x = text("ab", row[0], 120, 0);
            x.appearance(0);
            Check.due(row[1], x.mark(1, 3));
            Check.due(row[1], x.mark(2, 3));
            Check.due(row[1] / 2, x.mark(2, 1));
        }
    }

    // "Of MARK i"; "IndexOutOfBoundsException"
    private static void markFromTo() {
        for (int i : new int[] {Integer.MIN_VALUE, -2, -1, 4, 5, 31, Integer.MAX_VALUE}) {
            Probe.refused(Check.INDEX, Forms::rich, x -> x.mark(i, 0));
        }
        int[] signs = {0, 'a', 'b', 'c'};
        for (int i = 0; i < 4; i++) {
            Check.due(signs[i], Forms.rich().mark(i, 0));
        }
    }

    // "0 the SIGN (0 the frame), 1 x, 2 y, 3 the SIZE"
    private static void markPartFromTo() {
        int[] parts = {'b', 37, 6, 48};
        for (int what = 0; what <= 3; what++) {
            Check.due(parts[what], Forms.rich().mark(2, what));
        }
        for (int what : new int[] {Integer.MIN_VALUE, -2, -1, 4, 5, Integer.MAX_VALUE}) {
            Probe.refused(Check.INDEX, Forms::rich, x -> x.mark(0, what));
            Probe.refused(Check.INDEX, Forms::rich, x -> x.mark(3, what));
        }
    }

    private static void noMarksAtFirst() {
        for (int i = -1; i <= 1; i++) {
            int one = i;
            Probe.refused(Check.INDEX, Forms::kinds, x -> x.mark(one, 0));
            Probe.refused(Check.INDEX, Forms::kinds, x -> x.page(one, 0));
        }
    }

    // "Of MARK i that was made last": by appearance(), and as it was then
    private static void madeLast() {
        FormFields x = text("ab", 800, 120, 0);
        x.field(-1, Check.TEXT, 2);
        x.appearance(0);
        Check.retype(x, 0, "xyz");
        x.set(0, 5, 1);
        Check.due('b', x.mark(2, 0));
        Check.due(48, x.mark(2, 1));
        Check.refused(Check.INDEX, () -> x.mark(3, 0));
        x.flatten(0);
        Check.due('b', x.mark(2, 0));
        Check.refused(Check.INDEX, () -> x.mark(3, 0));
        x.appearance(1);
        Check.due(0, x.mark(0, 0));
        Check.refused(Check.INDEX, () -> x.mark(1, 0));
    }

    private static void tellingChangesNothing() {
        Probe.alike(Forms::rich, () -> {
            FormFields x = Forms.rich();
            x.mark(3, 3);
            x.page(1, 4);
            x.at(0);
            x.failed(0);
            x.failed(-1);
            return x;
        });
        Probe.alike(Forms::rich, () -> {
            FormFields x = Forms.rich();
            x.appearance(Forms.NUMBER);
            x.appearance(Forms.CELLED_AGAIN);
            return x;
        });
    }

    // "The MARKS of a field come behind those of the page .. : how many the page has"
    private static void behindThoseOfThePage() {
        FormFields x = text("ab", 100, 120, 2);
        x.field(-1, Check.TEXT, 1);
        x.field(-1, Check.BOX, 2);
        Check.due(1, x.flatten(2));
        Check.due(4, x.flatten(1));
        Check.due(7, x.flatten(0));
        int[][] due = {{0, 0, 0, 0, 2}, {0, 0, 0, 0, 1}, {'a', 0, 32, 96, 1}, {'b', 48, 32, 96, 1}, {0, 0, 0, 0, 0},
            {'a', 4, 12, 96, 0}, {'b', 52, 12, 96, 0}};
        for (int i = 0; i < due.length; i++) {
            for (int what = 0; what <= 4; what++) {
                Check.due(due[i][what], x.page(i, what));
            }
        }
    }

    // "IllegalStateException when it is FLAT"
    private static void flatTwice() {
        Probe.refused(Check.STATE, Forms::rich, x -> x.flatten(Forms.FLAT));
        for (int kind = 1; kind <= 5; kind++) {
            int one = kind;
            Probe.refused(Check.STATE, () -> {
                FormFields x = Forms.one(one);
                x.flatten(0);
                return x;
            }, x -> x.flatten(0));
        }
    }

    /** Being flat is a field's own: another of the full name, the master too, is not. */
    private static void flatItself() {
        Check.due(4, Forms.rich().flatten(Forms.FLAT_AGAIN));
        FormFields x = Forms.rich();
        Check.due(6, x.flatten(Forms.CELLED_AGAIN));
        Check.due(10, x.flatten(Forms.CELLED));
        Check.refused(Check.STATE, () -> x.flatten(Forms.CELLED));
        Check.refused(Check.STATE, () -> x.flatten(Forms.CELLED_AGAIN));
    }

    /** Texts of one full name, twelve of them flat with 31 marks each: 372 on the page. */
    private static FormFields page(int signs) {
        FormFields x = new FormFields();
        for (int i = 0; i < 15; i++) {
            x.field(-1, Check.TEXT, 1);
        }
        Check.type(x, 0, THIRTY);
        for (int i = 0; i < 12; i++) {
            x.flatten(i);
        }
        Check.retype(x, 12, THIRTY.substring(0, signs));
        return x;
    }

    // "UnsupportedOperationException when the page would have more than 400"
    private static void fourHundred() {
        Check.due(399, page(26).flatten(12));
        Check.due(400, page(27).flatten(12));
        Probe.refused(Check.UNSUPPORTED, () -> page(28), x -> x.flatten(12));
        Probe.refused(Check.UNSUPPORTED, () -> page(30), x -> x.flatten(12));
        FormFields x = page(26);
        x.flatten(12);
        Check.refused(Check.UNSUPPORTED, () -> x.flatten(13));
        x.value(13, -1);
        Check.due(400, x.flatten(13));
        Check.refused(Check.UNSUPPORTED, () -> x.flatten(14));
        Check.due(0, x.page(399, 0));
        Check.due(13, x.page(399, 4));
        Check.due('z', x.page(398, 0));
        Check.refused(Check.INDEX, () -> x.page(400, 0));
    }

    private static void refusedForRoomIsNotFlat() {
        FormFields x = page(28);
        Check.refused(Check.UNSUPPORTED, () -> x.flatten(12));
        Check.due(0, x.value(12, -1));
        Check.due(1, x.value(12, 'k'));
        Check.due(374, x.flatten(12));
        Check.due('k', x.page(373, 0));
        Check.refused(Check.STATE, () -> x.value(12, -1));
    }

    // "Of MARK i of the page"; "IndexOutOfBoundsException"
    private static void pageFromTo() {
        for (int i : new int[] {Integer.MIN_VALUE, -2, -1, 2, 3, 400, Integer.MAX_VALUE}) {
            Probe.refused(Check.INDEX, Forms::rich, x -> x.page(i, 0));
        }
        Check.due(0, Forms.rich().page(0, 0));
        Check.due('q', Forms.rich().page(1, 0));
    }

    // "0 to 3 as mark(), 4 its field"
    private static void pagePartFromTo() {
        int[] parts = {'q', 0, 32, 96, Forms.FLAT};
        for (int what = 0; what <= 4; what++) {
            Check.due(parts[what], Forms.rich().page(1, what));
        }
        for (int what : new int[] {Integer.MIN_VALUE, -2, -1, 5, 6, Integer.MAX_VALUE}) {
            Probe.refused(Check.INDEX, Forms::rich, x -> x.page(0, what));
            Probe.refused(Check.INDEX, Forms::rich, x -> x.page(1, what));
        }
    }

    // "marks that come to stay on a page"
    private static void pageStays() {
        FormFields x = Forms.rich();
        Check.retype(x, Forms.FLAT_AGAIN, "other");
        x.set(Forms.FLAT, 5, 1);
        x.appearance(Forms.FLAT);
        Check.due('q', x.page(1, 0));
        Check.due(96, x.page(1, 3));
        Check.refused(Check.INDEX, () -> x.page(2, 0));
        Check.due("other", Check.shown(x, Forms.FLAT));
    }

    private static void whichIsNamedFirst() {
        Supplier<FormFields> full = () -> {
            FormFields x = page(27);
            x.field(-1, Check.GROUP, 2);
            x.flatten(12);
            return x;
        };
        Probe.refused(Check.NO_SUCH, full, x -> x.flatten(16));
        Probe.refused(Check.ARGUMENT, full, x -> x.flatten(15));
        Probe.refused(Check.STATE, full, x -> x.flatten(12));
        Probe.refused(Check.STATE, full, x -> x.flatten(0));
        Probe.refused(Check.UNSUPPORTED, full, x -> x.flatten(13));
    }
}
