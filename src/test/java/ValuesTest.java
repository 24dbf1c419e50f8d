/** Promises 3 to 5: value, option, set. */
public final class ValuesTest {
    public static void main(String[] args) {
        textSigns();
        numberSigns();
        boxes();
        options();
        radiosAndChoices();
        cells();
        lockedAndFlat();
        settings();
        wrongSettings();
        settingsOfMasterAndOwn();
        Check.end();
    }

    private static void textSigns() {
        FormFields x = new FormFields();
        x.field(-1, Check.TEXT, 1);
        Check.refused(Check.NO_SUCH, () -> x.value(1, 65));
        Check.refused(Check.NO_SUCH, () -> x.value(-1, 65));
        Check.refused(Check.ARGUMENT, () -> x.value(0, 31));
        Check.refused(Check.ARGUMENT, () -> x.value(0, 127));
        Check.refused(Check.ARGUMENT, () -> x.value(0, -2));
        Check.due(1, x.value(0, 32));
        Check.due(2, x.value(0, 126));
        Check.due(0, x.value(0, -1));
        Check.due(0, x.value(0, -1));
        for (int i = 1; i <= 30; i++) {
            Check.due(i, x.value(0, 64 + i));
        }
        Check.refused(Check.UNSUPPORTED, () -> x.value(0, 65));
        Check.refused(Check.ARGUMENT, () -> x.value(0, 10));
        Check.due(94, x.shown(0, 29));
        Check.due(-1, x.shown(0, 30));
        Check.due(0, x.value(0, -1));
        Check.due(1, x.value(0, 65));
    }

    private static void numberSigns() {
        FormFields x = new FormFields();
        x.field(-1, Check.NUMBER, 1);
        for (int c : new int[] {44, 47, 58, 32, 65, -2, 256 + 48}) {
            Check.refused(Check.ARGUMENT, () -> x.value(0, c));
        }
        Check.due(1, x.value(0, 48));
        Check.due(2, x.value(0, 57));
        Check.due(3, x.value(0, 45));
        Check.due(4, x.value(0, 46));
        for (int i = 5; i <= 14; i++) {
            Check.due(i, x.value(0, 46));
        }
        Check.refused(Check.UNSUPPORTED, () -> x.value(0, 48));
        Check.due("09-...........", Check.shown(x, 0));
        Check.due(0, x.value(0, -1));
        x.field(-1, Check.GROUP, 2);
        Check.refused(Check.ARGUMENT, () -> x.value(1, 48));
        Check.refused(Check.ARGUMENT, () -> x.value(1, -1));
        Check.refused(Check.ARGUMENT, () -> x.value(1, 0));
    }

    private static void boxes() {
        FormFields x = new FormFields();
        x.field(-1, Check.BOX, 1);
        x.field(-1, Check.BOX, 1);
        Check.due("1=0\n", Check.data(x));
        Check.due(1, x.value(1, 1));
        Check.due("X", Check.shown(x, 0));
        Check.due(1, x.value(0, 1));
        Check.refused(Check.ARGUMENT, () -> x.value(0, 2));
        Check.refused(Check.ARGUMENT, () -> x.value(0, -1));
        Check.refused(Check.ARGUMENT, () -> x.value(0, 48));
        Check.due(0, x.value(0, 0));
        Check.due("", Check.shown(x, 1));
    }

    private static void options() {
        FormFields x = new FormFields();
        int[] withoutOptions = {Check.GROUP, Check.TEXT, Check.BOX, Check.NUMBER};
        for (int i = 0; i < 4; i++) {
            int field = x.field(-1, withoutOptions[i], i);
            Check.refused(Check.ARGUMENT, () -> x.option(field, 5));
        }
        x.field(-1, Check.RADIO, 4);
        x.field(-1, Check.RADIO, 4);
        Check.refused(Check.NO_SUCH, () -> x.option(6, 5));
        Check.refused(Check.ARGUMENT, () -> x.option(4, -1));
        Check.refused(Check.ARGUMENT, () -> x.option(4, 100000));
        Check.due(0, x.option(4, 0));
        Check.due(1, x.option(5, 99999));
        Check.refused(Check.ARGUMENT, () -> x.option(5, 0));
        Check.refused(Check.ARGUMENT, () -> x.option(4, 99999));
        x.lock(4, true);
        for (int i = 2; i < 12; i++) {
            Check.due(i, x.option(4, 10 * i));
        }
        Check.refused(Check.UNSUPPORTED, () -> x.option(4, 7));
        Check.refused(Check.ARGUMENT, () -> x.option(4, 110));
        Check.refused(Check.ARGUMENT, () -> x.option(4, 100000));
        x.field(-1, Check.CHOICE, 5);
        Check.due(0, x.option(6, 110));
    }

    private static void radiosAndChoices() {
        FormFields x = new FormFields();
        x.field(-1, Check.RADIO, 1);
        x.field(-1, Check.CHOICE, 2);
        for (int field = 0; field < 2; field++) {
            int one = field;
            Check.refused(Check.ARGUMENT, () -> x.value(one, 0));
            Check.due(-1, x.value(one, -1));
            x.option(one, 70);
            x.option(one, 5);
            Check.due(-1, x.value(one, -1));
            Check.refused(Check.ARGUMENT, () -> x.value(one, 2));
            Check.refused(Check.ARGUMENT, () -> x.value(one, -2));
            Check.refused(Check.ARGUMENT, () -> x.value(one, 70));
            Check.due("", Check.shown(x, one));
            Check.due(1, x.value(one, 1));
            Check.due("5", Check.shown(x, one));
            Check.due(0, x.value(one, 0));
            Check.due("70", Check.shown(x, one));
        }
        Check.due(-1, x.value(1, -1));
        Check.refused(Check.ARGUMENT, () -> x.value(0, -1));
        Check.due("70", Check.shown(x, 0));
        Check.due(0, x.set(0, 2, 1));
        Check.due(-1, x.value(0, -1));
        Check.due(1, x.set(0, 2, 0));
        Check.due(-1, x.value(0, -1));
        Check.due("", Check.shown(x, 0));
    }

    private static void cells() {
        FormFields x = new FormFields();
        x.field(-1, Check.TEXT, 1);
        x.field(-1, Check.TEXT, 1);
        Check.type(x, 0, "abc");
        Check.refused(Check.ARGUMENT, () -> x.set(0, 1, 2));
        Check.refused(Check.ARGUMENT, () -> x.set(0, 1, 31));
        Check.refused(Check.ARGUMENT, () -> x.set(0, 1, -1));
        Check.due(0, x.set(1, 1, 3));
        Check.refused(Check.UNSUPPORTED, () -> x.value(0, 65));
        Check.refused(Check.UNSUPPORTED, () -> x.value(1, 65));
        Check.due(3, x.set(0, 1, 0));
        Check.due(4, x.value(0, 65));
        Check.due(0, x.set(0, 1, 30));
        Check.due(30, x.set(0, 1, 4));
        Check.due(0, x.value(0, -1));
        Check.due(4, x.set(0, 1, 1));
        Check.due(1, x.value(0, 65));
        Check.refused(Check.UNSUPPORTED, () -> x.value(0, 65));
    }

    private static void lockedAndFlat() {
        FormFields x = new FormFields();
        x.field(-1, Check.TEXT, 1);
        x.field(-1, Check.TEXT, 1);
        x.set(0, 1, 1);
        x.value(0, 65);
        x.flatten(0);
        Check.refused(Check.STATE, () -> x.value(0, -1));
        Check.refused(Check.STATE, () -> x.value(0, 65));
        Check.refused(Check.ARGUMENT, () -> x.value(0, 31));
        Check.refused(Check.UNSUPPORTED, () -> x.value(1, 66));
        Check.due(0, x.value(1, -1));
        x.lock(0, true);
        Check.refused(Check.STATE, () -> x.value(1, 66));
        Check.refused(Check.STATE, () -> x.value(1, -1));
        x.lock(1, false);
        Check.due(1, x.value(1, 66));
        x.field(-1, Check.RADIO, 2);
        x.option(2, 5);
        x.value(2, 0);
        x.lock(2, true);
        Check.refused(Check.ARGUMENT, () -> x.value(2, -1));
        Check.refused(Check.STATE, () -> x.value(2, 0));
        Check.due("5", Check.shown(x, 2));
    }

    private static void settings() {
        FormFields x = new FormFields();
        int[] first = {0, 0, 0, 3, 0, 800, 160, 0};
        int[] most = {1, 30, 1, 3, 1, 100000, 100000, 2};
        for (int kind = 0; kind <= 5; kind++) {
            int field = x.field(-1, kind, kind);
            for (int what = 0; what < 8; what++) {
                int one = what;
                boolean has = kind != Check.GROUP
                        && (what != 1 || kind == Check.TEXT)
                        && (what != 2 || kind == Check.RADIO)
                        && (what != 3 && what != 4 || kind == Check.NUMBER);
                if (has) {
                    Check.due(first[what], x.set(field, what, most[what]));
                    Check.due(most[what], x.set(field, what, 0));
                    Check.due(0, x.set(field, what, first[what]));
                    Check.refused(Check.ARGUMENT, () -> x.set(field, one, -1));
                    Check.refused(Check.ARGUMENT, () -> x.set(field, one, most[one] + 1));
                    Check.due(first[what], x.set(field, what, first[what]));
                } else {
                    Check.refused(Check.ARGUMENT, () -> x.set(field, one, 0));
                }
            }
        }
    }

    private static void wrongSettings() {
        FormFields x = new FormFields();
        x.field(-1, Check.TEXT, 1);
        Check.refused(Check.NO_SUCH, () -> x.set(1, 9, 0));
        Check.refused(Check.NO_SUCH, () -> x.set(-1, 0, 0));
        Check.refused(Check.ARGUMENT, () -> x.set(0, 8, 0));
        Check.refused(Check.ARGUMENT, () -> x.set(0, -1, 0));
        Check.refused(Check.ARGUMENT, () -> x.set(0, Integer.MAX_VALUE, 0));
        x.lock(0, true);
        x.flatten(0);
        Check.due(800, x.set(0, 5, 700));
    }

    private static void settingsOfMasterAndOwn() {
        FormFields x = new FormFields();
        x.field(-1, Check.NUMBER, 1);
        x.field(-1, Check.NUMBER, 1);
        for (int what : new int[] {0, 3, 4}) {
            x.set(1, what, 1);
            Check.due(1, x.set(0, what, 0));
            Check.due(0, x.set(1, what, 0));
        }
        for (int what : new int[] {5, 6, 7}) {
            x.set(1, what, 1);
            Check.due(what == 5 ? 800 : what == 6 ? 160 : 0, x.set(0, what, 2));
            Check.due(1, x.set(1, what, 0));
        }
    }
}
