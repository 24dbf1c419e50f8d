import java.util.function.Supplier;

/** The boundary cases of promises 3 to 5, each sentence in a test of its own. */
public final class ValueEdgesTest {
    private static final String THIRTY = "abcdefghijklmnopqrstuvwxyz0123";
    private static final String FOURTEEN = "1234567890.-12";
    private static final int[] NO_FIELDS = {Integer.MIN_VALUE, -1, Forms.COUNT, 40, Integer.MAX_VALUE};
    /** Of each setting the most that it may be, and what it is at first. */
    private static final int[] MOST = {1, 30, 1, 3, 1, 100000, 100000, 2};
    private static final int[] AT_FIRST = {0, 0, 0, 3, 0, 800, 160, 0};
    /** What value() takes of each kind, but for groups. */
    private static final int[] TAKEN = {0, 65, 1, 0, 0, 48};

    public static void main(String[] args) {
        noSuchField();
        textSigns();
        numberSigns();
        thirtySignsOfText();
        fourteenSignsOfNumber();
        signsAreGone();
        boxIsZeroOrOne();
        optionsThatThereAre();
        noneOfAChoice();
        noneOfARadio();
        noValueOfAGroup();
        lockedTakesNone();
        flatItselfTakesNone();
        asManyAsCells();
        whichIsNamedFirst();
        twelveOptions();
        codes();
        codesAreDifferent();
        optionsOfOtherKinds();
        settingsOfKinds();
        settingsFromTo();
        cellsNotLessThanSigns();
        settingsAtFirst();
        settingsOfItsOwn();
        Check.end();
    }

    // "NoSuchElementException: there is no such field."
    private static void noSuchField() {
        for (int field : NO_FIELDS) {
            Probe.allRefused(Check.NO_SUCH, Forms::rich,
                    x -> x.value(field, 65), x -> x.value(field, -2), x -> x.option(field, 1),
                    x -> x.option(field, -1), x -> x.set(field, 0, 0), x -> x.set(field, 8, -1));
        }
    }

    // "TEXT 32 .. 126"
    private static void textSigns() {
        for (int c = 32; c <= 126; c++) {
            FormFields x = Forms.one(Check.TEXT);
            Check.due(1, x.value(0, c));
            Check.due(c, x.shown(0, 0));
        }
        for (int c : new int[] {Integer.MIN_VALUE, -2, 0, 1, 10, 31, 127, 128, 255, 256 + 65, Integer.MAX_VALUE}) {
            Probe.refused(Check.ARGUMENT, () -> Forms.typed(Check.TEXT, "ab"), x -> x.value(0, c));
        }
    }

    // "NUMBER 48 .. 57, 45, 46"
    private static void numberSigns() {
        for (int c = -2; c <= 300; c++) {
            int sign = c;
            if (c >= 48 && c <= 57 || c == 45 || c == 46) {
                FormFields x = Forms.one(Check.NUMBER);
                Check.due(1, x.value(0, c));
                Check.due("1=" + (char) c + "\n", Check.data(x));
            } else if (c != -1) {
                Check.refused(Check.ARGUMENT, () -> Forms.one(Check.NUMBER).value(0, sign));
            }
        }
        for (int c : new int[] {Integer.MIN_VALUE, -2, 0, 43, 44, 47, 58, Integer.MAX_VALUE}) {
            Probe.refused(Check.ARGUMENT, () -> Forms.typed(Check.NUMBER, "1"), x -> x.value(0, c));
        }
    }

    // "of TEXT .. up to 30"; "UnsupportedOperationException when it has all SIGNS"
    private static void thirtySignsOfText() {
        FormFields x = Forms.typed(Check.TEXT, THIRTY.substring(0, 28));
        Check.due(29, x.value(0, '2'));
        Check.due(30, x.value(0, '3'));
        Check.due(THIRTY, Check.shown(x, 0));
        Probe.refused(Check.UNSUPPORTED, () -> Forms.typed(Check.TEXT, THIRTY), y -> y.value(0, 65));
        Probe.refused(Check.UNSUPPORTED, () -> Forms.typed(Check.TEXT, THIRTY), y -> y.value(0, 126));
    }

    // "of .. NUMBER up to .. 14 SIGNS"
    private static void fourteenSignsOfNumber() {
        FormFields x = Forms.typed(Check.NUMBER, FOURTEEN.substring(0, 12));
        Check.due(13, x.value(0, '1'));
        Check.due(14, x.value(0, '2'));
        Check.due(FOURTEEN, Check.shown(x, 0));
        Probe.refused(Check.UNSUPPORTED, () -> Forms.typed(Check.NUMBER, FOURTEEN), y -> y.value(0, '0'));
        Probe.refused(Check.UNSUPPORTED, () -> Forms.typed(Check.NUMBER, FOURTEEN), y -> y.value(0, '.'));
    }

    // "(-1: they are gone): how many it has"
    private static void signsAreGone() {
        String[] signs = {"", "1", FOURTEEN};
        for (int kind : new int[] {Check.TEXT, Check.NUMBER}) {
            for (String one : signs) {
                FormFields x = Forms.typed(kind, one);
                Check.due(0, x.value(0, -1));
                Check.due("", Check.shown(x, 0));
                Check.due(0, x.value(0, -1));
                Check.due(1, x.value(0, '5'));
                Check.due("1=5\n", Check.data(x));
            }
        }
        FormFields x = Forms.typed(Check.TEXT, THIRTY);
        Check.due(0, x.value(0, -1));
        Check.due(1, x.value(0, 'b'));
        Check.due("b", Check.shown(x, 0));
    }

    // "of a BOX 0 (at first) or 1"; "or the VALUE of a BOX .. : that"
    private static void boxIsZeroOrOne() {
        FormFields x = Forms.one(Check.BOX);
        Check.due("1=0\n", Check.data(x));
        for (int v : new int[] {0, 1, 1, 0}) {
            Check.due(v, x.value(0, v));
            Check.due("1=" + v + "\n", Check.data(x));
        }
        for (int v : new int[] {Integer.MIN_VALUE, -2, -1, 2, 48, 49, Integer.MAX_VALUE}) {
            Probe.refused(Check.ARGUMENT, () -> Forms.one(Check.BOX), y -> y.value(0, v));
            Probe.refused(Check.ARGUMENT, Forms::rich, y -> y.value(Forms.BOX, v));
        }
    }

    private static FormFields withOptions(int kind, int count) {
        FormFields x = Forms.one(kind);
        for (int i = 0; i < count; i++) {
            Check.due(i, x.option(0, 50 + i));
        }
        return x;
    }

    // "the number of an OPTION .. : that"
    private static void optionsThatThereAre() {
        for (int kind : new int[] {Check.RADIO, Check.CHOICE}) {
            for (int count = 0; count <= 12; count++) {
                int options = count;
                FormFields x = withOptions(kind, count);
                for (int i = 0; i < count; i++) {
                    Check.due(i, x.value(0, i));
                    Check.due("" + (50 + i), Check.shown(x, 0));
                }
                for (int c : new int[] {Integer.MIN_VALUE, -2, count, count + 1, 50, Integer.MAX_VALUE}) {
                    Probe.refused(Check.ARGUMENT, () -> withOptions(kind, options), y -> y.value(0, c));
                }
            }
        }
    }

    // "(-1: none ..)", of a CHOICE always
    private static void noneOfAChoice() {
        FormFields x = withOptions(Check.CHOICE, 2);
        Check.due(-1, x.value(0, -1));
        Check.due(1, x.value(0, 1));
        Check.due(-1, x.value(0, -1));
        Check.due("1=\n", Check.data(x));
        Check.due(-1, Forms.one(Check.CHOICE).value(0, -1));
    }

    // "of a RADIO only when it may be OFF, or has none"
    private static void noneOfARadio() {
        Check.due(-1, Forms.one(Check.RADIO).value(0, -1));
        Check.due(-1, withOptions(Check.RADIO, 2).value(0, -1));
        for (int option = 0; option < 2; option++) {
            int chosen = option;
            Supplier<FormFields> made = () -> {
                FormFields x = withOptions(Check.RADIO, 2);
                x.value(0, chosen);
                return x;
            };
            Probe.refused(Check.ARGUMENT, made, x -> x.value(0, -1));
            FormFields x = made.get();
            x.set(0, 2, 1);
            Check.due(-1, x.value(0, -1));
            Check.due("1=\n", Check.data(x));
            x.set(0, 2, 0);
            Check.due(-1, x.value(0, -1));
            Check.due(chosen, x.value(0, chosen));
            Check.refused(Check.ARGUMENT, () -> x.value(0, -1));
        }
    }

    // "IllegalArgumentException, also of a GROUP"
    private static void noValueOfAGroup() {
        for (int c : new int[] {-1, 0, 1, 48, 65}) {
            Probe.refused(Check.ARGUMENT, () -> Forms.one(Check.GROUP), x -> x.value(0, c));
            Probe.refused(Check.ARGUMENT, Forms::rich, x -> x.value(Forms.GROUP, c));
        }
    }

    /** A field of the kind and another of the same full name, each with all it needs to take a value. */
    private static FormFields two(int kind) {
        FormFields x = Forms.one(kind);
        x.field(-1, kind, 1);
        if (kind == Check.RADIO || kind == Check.CHOICE) {
            x.option(0, 50);
        }
        return x;
    }

    // "IllegalStateException when it is LOCKED"
    private static void lockedTakesNone() {
        for (int kind = 1; kind <= 5; kind++) {
            int one = kind;
            for (int told = 0; told < 2; told++) {
                int field = told;
                Supplier<FormFields> locked = () -> {
                    FormFields x = two(one);
                    x.lock(field, true);
                    return x;
                };
                Probe.refused(Check.STATE, locked, x -> x.value(0, TAKEN[one]));
                Probe.refused(Check.STATE, locked, x -> x.value(1, TAKEN[one]));
                FormFields x = locked.get();
                x.lock(1 - field, false);
                x.value(0, TAKEN[one]);
            }
        }
        Probe.refused(Check.STATE, Forms::rich, x -> x.value(Forms.LOCKED, -1));
        Probe.refused(Check.STATE, Forms::rich, x -> x.value(Forms.LOCKED, 32));
    }

    // "or FLAT itself"
    private static void flatItselfTakesNone() {
        for (int kind = 1; kind <= 5; kind++) {
            int one = kind;
            for (int told = 0; told < 2; told++) {
                int field = told;
                Supplier<FormFields> flat = () -> {
                    FormFields x = two(one);
                    x.flatten(field);
                    return x;
                };
                Probe.refused(Check.STATE, flat, x -> x.value(field, TAKEN[one]));
                FormFields x = flat.get();
                Check.due(kind == Check.TEXT || kind == Check.NUMBER ? 1 : TAKEN[kind], x.value(1 - field, TAKEN[kind]));
                Check.due(1, Check.shown(x, field).isEmpty() ? 0 : 1);
                Check.refused(Check.STATE, () -> x.value(field, TAKEN[one]));
            }
        }
        Probe.refused(Check.STATE, Forms::rich, x -> x.value(Forms.FLAT, -1));
        Check.due(2, Forms.rich().value(Forms.FLAT_AGAIN, 65));
    }

    // "or as many as CELLS"
    private static void asManyAsCells() {
        for (int cells = 1; cells <= 30; cells++) {
            int most = cells;
            FormFields x = Forms.typed(Check.TEXT, THIRTY.substring(0, cells - 1));
            x.set(0, 1, cells);
            Check.due(cells, x.value(0, 'z'));
            Probe.refused(Check.UNSUPPORTED, () -> celled(most), y -> y.value(0, 'z'));
        }
        FormFields x = celled(3);
        Check.due(0, x.value(0, -1));
        Check.due(1, x.value(0, 65));
        x.set(0, 1, 0);
        Check.type(x, 0, THIRTY.substring(1));
        Check.refused(Check.UNSUPPORTED, () -> x.value(0, 65));
        FormFields y = celled(3);
        y.set(0, 1, 4);
        Check.due(4, y.value(0, 65));
        Check.refused(Check.UNSUPPORTED, () -> y.value(0, 65));
        Probe.refused(Check.UNSUPPORTED, Forms::rich, z -> z.value(Forms.CELLED_AGAIN, 65));
    }

    /** A text that has as many signs as cells. */
    private static FormFields celled(int cells) {
        FormFields x = Forms.typed(Check.TEXT, THIRTY.substring(0, cells));
        x.set(0, 1, cells);
        return x;
    }

    private static void whichIsNamedFirst() {
        Supplier<FormFields> lockedAndFull = () -> {
            FormFields x = celled(3);
            x.lock(0, true);
            return x;
        };
        Supplier<FormFields> flatAndFull = () -> {
            FormFields x = Forms.typed(Check.NUMBER, FOURTEEN);
            x.flatten(0);
            return x;
        };
        Probe.refused(Check.ARGUMENT, lockedAndFull, x -> x.value(0, 31));
        Probe.refused(Check.STATE, lockedAndFull, x -> x.value(0, 65));
        Probe.refused(Check.ARGUMENT, flatAndFull, x -> x.value(0, 65));
        Probe.refused(Check.STATE, flatAndFull, x -> x.value(0, 48));
        Probe.refused(Check.ARGUMENT, () -> celled(3), x -> x.value(0, 127));
        Probe.refused(Check.ARGUMENT, () -> {
            FormFields x = withOptions(Check.RADIO, 1);
            x.value(0, 0);
            x.lock(0, true);
            return x;
        }, x -> x.value(0, -1));
        Probe.refused(Check.ARGUMENT, () -> withOptions(Check.CHOICE, 12), x -> x.option(0, 50));
        Probe.refused(Check.ARGUMENT, () -> withOptions(Check.CHOICE, 12), x -> x.option(0, 100000));
        Probe.refused(Check.ARGUMENT, () -> withOptions(Check.CHOICE, 12), x -> x.option(0, -1));
    }

    // "OPTIONS 0, 1, .. (12 at most)"; "UnsupportedOperationException when there are 12"
    private static void twelveOptions() {
        for (int kind : new int[] {Check.RADIO, Check.CHOICE}) {
            Check.due(10, withOptions(kind, 10).option(0, 1));
            Check.due(11, withOptions(kind, 11).option(0, 1));
            Probe.refused(Check.UNSUPPORTED, () -> withOptions(kind, 12), x -> x.option(0, 1));
        }
        Probe.refused(Check.UNSUPPORTED, Forms::rich, x -> x.option(Forms.CHOICE, 1));
        FormFields x = withOptions(Check.RADIO, 11);
        x.lock(0, true);
        x.flatten(0);
        Check.due(11, x.option(0, 1));
    }

    // "have each a CODE 0 .. 99999"
    private static void codes() {
        for (int kind : new int[] {Check.RADIO, Check.CHOICE}) {
            for (int code : new int[] {0, 1, 9, 10, 99998, 99999}) {
                FormFields x = Forms.one(kind);
                Check.due(0, x.option(0, code));
                Check.due(0, x.value(0, 0));
                Check.due("" + code, Check.shown(x, 0));
                Check.due("1=" + code + "\n", Check.data(x));
            }
            for (int code : new int[] {Integer.MIN_VALUE, -2, -1, 100000, 100001, Integer.MAX_VALUE}) {
                Probe.refused(Check.ARGUMENT, () -> withOptions(kind, 3), x -> x.option(0, code));
            }
        }
    }

    // "all different"; "or it is there"
    private static void codesAreDifferent() {
        for (int kind : new int[] {Check.RADIO, Check.CHOICE}) {
            for (int count = 1; count <= 12; count++) {
                int options = count;
                Probe.refused(Check.ARGUMENT, () -> withOptions(kind, options), x -> x.option(0, 50));
                Probe.refused(Check.ARGUMENT, () -> withOptions(kind, options), x -> x.option(0, 49 + options));
            }
        }
        FormFields x = withOptions(Check.RADIO, 2);
        x.field(-1, Check.RADIO, 2);
        Check.due(0, x.option(1, 51));
        x.field(-1, Check.RADIO, 1);
        Check.refused(Check.ARGUMENT, () -> x.option(2, 51));
        Check.due(2, x.option(2, 52));
    }

    // "An OPTION of a RADIO or CHOICE"; "IllegalArgumentException: its KIND"
    private static void optionsOfOtherKinds() {
        for (int kind : new int[] {Check.GROUP, Check.TEXT, Check.BOX, Check.NUMBER}) {
            Probe.refused(Check.ARGUMENT, Forms::kinds, x -> x.option(kind, 0));
        }
    }

    private static boolean has(int kind, int what) {
        int[] alone = {-1, Check.TEXT, Check.RADIO, Check.NUMBER, Check.NUMBER, -1, -1, -1};
        return kind != Check.GROUP && (alone[what] == -1 || alone[what] == kind);
    }

    // "the GROUP, the SETTING (1 is of TEXT, 2 of RADIOS, 3 and 4 of NUMBERS alone)"
    private static void settingsOfKinds() {
        for (int kind = 0; kind <= 5; kind++) {
            int field = kind;
            for (int what = 0; what <= 7; what++) {
                int setting = what;
                if (has(kind, what)) {
                    Check.due(AT_FIRST[what], Forms.kinds().set(field, what, 0));
                } else {
                    Probe.refused(Check.ARGUMENT, Forms::kinds, x -> x.set(field, setting, 0));
                    Probe.refused(Check.ARGUMENT, Forms::kinds, x -> x.set(field, setting, 1));
                }
            }
            for (int what : new int[] {Integer.MIN_VALUE, -1, 8, 9, Integer.MAX_VALUE}) {
                Probe.refused(Check.ARGUMENT, Forms::kinds, x -> x.set(field, what, 0));
            }
        }
    }

    // the values that each SETTING may have, "or v"
    private static void settingsFromTo() {
        for (int kind = 1; kind <= 5; kind++) {
            int field = kind;
            for (int what = 0; what <= 7; what++) {
                int setting = what;
                if (!has(kind, what)) {
                    continue;
                }
                for (int v : new int[] {0, 1, MOST[what] - 1, MOST[what]}) {
                    FormFields x = Forms.kinds();
                    Check.due(AT_FIRST[what], x.set(field, what, v));
                    Check.due(v, x.set(field, what, v));
                }
                for (int v : new int[] {Integer.MIN_VALUE, -1, MOST[what] + 1, Integer.MAX_VALUE}) {
                    Probe.refused(Check.ARGUMENT, Forms::kinds, x -> x.set(field, setting, v));
                }
            }
        }
    }

    // "(0: none; 30 at most, and not less than its SIGNS then)"
    private static void cellsNotLessThanSigns() {
        for (int signs = 0; signs <= 30; signs++) {
            String text = THIRTY.substring(0, signs);
            for (int cells = 1; cells <= 31; cells++) {
                int v = cells;
                FormFields x = Forms.typed(Check.TEXT, text);
                if (v >= signs && v <= 30) {
                    Check.due(0, x.set(0, 1, v));
                    Check.due(v, x.set(0, 1, 0));
                } else {
                    Check.refused(Check.ARGUMENT, () -> x.set(0, 1, v));
                    Check.due(0, x.set(0, 1, 0));
                }
            }
        }
        for (int v : new int[] {-1, 1, 2, 31}) {
            Probe.refused(Check.ARGUMENT, Forms::rich, x -> x.set(Forms.CELLED_AGAIN, 1, v));
        }
        Check.due(3, Forms.rich().set(Forms.CELLED_AGAIN, 1, 3));
        Check.due(3, Forms.rich().set(Forms.CELLED_AGAIN, 1, 4));
        Check.due(3, Forms.rich().set(Forms.CELLED_AGAIN, 1, 0));
    }

    // "at first 3"; "(all 0, 1, 0 at first, but 3)"; "at first 800 and 160"
    private static void settingsAtFirst() {
        for (int kind = 1; kind <= 5; kind++) {
            for (int what = 0; what <= 7; what++) {
                if (has(kind, what)) {
                    FormFields x = two(kind);
                    Check.due(AT_FIRST[what], x.set(1, what, 1));
                    Check.due(what >= 5 ? AT_FIRST[what] : 1, x.set(0, what, 0));
                    Check.due(what >= 5 ? 1 : 0, x.set(1, what, 0));
                }
            }
        }
    }

    // "what is told of a field is told of its MASTER, but for its width, height and side"
    private static void settingsOfItsOwn() {
        FormFields x = two(Check.TEXT);
        Check.type(x, 0, "ab");
        x.set(1, 5, 95);
        x.set(1, 7, 2);
        Check.due(96, x.size(0));
        Check.due(48, x.size(1));
        x.set(1, 6, 59);
        Check.due(24, x.size(1));
        x.set(0, 6, 119);
        Check.due(48, x.size(0));
        Check.due(24, x.size(1));
        x.appearance(0);
        Check.due(0, x.mark(1, 1));
        x.appearance(1);
        Check.due(71, x.mark(1, 1));
    }
}
