/** Forms that have something of everything, so that a change which a refused call makes can be seen. */
final class Forms {
    static final int GROUP = 0;
    static final int CELLED = 1;
    static final int CELLED_AGAIN = 2;
    static final int BOX = 3;
    static final int RADIO = 4;
    static final int CHOICE = 5;
    static final int NUMBER = 6;
    static final int RESULT = 7;
    static final int FULL_NUMBER = 8;
    static final int LOCKED = 9;
    static final int FLAT = 10;
    static final int FLAT_AGAIN = 11;
    static final int COUNT = 12;

    private Forms() {
    }

    /** By the numbers above; data are written, marks made, bytes to be read wait, one formula failed. */
    static FormFields rich() {
        FormFields x = new FormFields();
        x.field(-1, Check.GROUP, 1);
        x.field(GROUP, Check.TEXT, 2);
        x.field(GROUP, Check.TEXT, 2);
        x.field(-1, Check.BOX, 3);
        x.field(-1, Check.RADIO, 4);
        x.field(-1, Check.CHOICE, 5);
        x.field(GROUP, Check.NUMBER, 6);
        x.field(-1, Check.NUMBER, 7);
        x.field(-1, Check.NUMBER, 8);
        x.field(-1, Check.TEXT, 9);
        x.field(-1, Check.TEXT, 10);
        x.field(-1, Check.TEXT, 10);
        texts(x);
        chosen(x);
        numbers(x);
        x.appearance(CELLED_AGAIN);
        x.write();
        x.read('3');
        x.read('=');
        x.read('0');
        return x;
    }

    private static void texts(FormFields x) {
        Check.type(x, CELLED, "abc");
        x.set(CELLED, 1, 3);
        x.set(CELLED, 0, 1);
        x.set(CELLED_AGAIN, 5, 100);
        x.set(CELLED_AGAIN, 6, 61);
        x.set(CELLED_AGAIN, 7, 1);
        Check.type(x, LOCKED, "z");
        x.lock(LOCKED, true);
        Check.type(x, FLAT, "q");
        x.flatten(FLAT);
    }

    private static void chosen(FormFields x) {
        x.value(BOX, 1);
        x.option(RADIO, 7);
        x.option(RADIO, 10);
        x.value(RADIO, 1);
        for (int i = 0; i < 12; i++) {
            x.option(CHOICE, 100 * i);
        }
        x.value(CHOICE, 2);
    }

    private static void numbers(FormFields x) {
        Check.type(x, NUMBER, "1.5");
        x.bounds(NUMBER, -1500, 2000);
        x.set(NUMBER, 3, 1);
        x.set(NUMBER, 4, 1);
        x.formula(RESULT, 0, NUMBER, BOX);
        Check.type(x, FULL_NUMBER, "12345678901234");
        x.formula(FULL_NUMBER, 3, NUMBER, FULL_NUMBER - 1);
        x.fails(FULL_NUMBER, true);
        x.calculate();
    }

    /** So many texts without a parent, of the names 0, 1, .. */
    static FormFields texts(int count) {
        FormFields x = new FormFields();
        for (int i = 0; i < count; i++) {
            Check.due(i, x.field(-1, Check.TEXT, i));
        }
        return x;
    }

    /** One field of a kind, number 0, without a parent, of the name 1. */
    static FormFields one(int kind) {
        FormFields x = new FormFields();
        x.field(-1, kind, 1);
        return x;
    }

    /** One text or number with these signs. */
    static FormFields typed(int kind, String signs) {
        FormFields x = one(kind);
        Check.type(x, 0, signs);
        return x;
    }

    /** One field of each kind, its number and its name the kind. */
    static FormFields kinds() {
        FormFields x = new FormFields();
        for (int kind = 0; kind <= 5; kind++) {
            x.field(-1, kind, kind);
        }
        return x;
    }
}
