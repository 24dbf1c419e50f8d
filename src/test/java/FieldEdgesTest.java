import java.util.function.Supplier;

/** The boundary cases of promises 1 and 2, each sentence in a test of its own. */
public final class FieldEdgesTest {
    public static void main(String[] args) {
        noFieldsAtFirst();
        nothingElseAtFirst();
        objectsAreApart();
        fortyAtMost();
        fortyOfOneFullName();
        kindZeroToFive();
        nameZeroTo999();
        parentIsThere();
        parentIsGroup();
        oneKindForOneFullName();
        oneKindThroughGroupsOfOneFullName();
        fullNameIsTheWholeRow();
        fullNameOfFortyNames();
        firstOfAFullNameIsMaster();
        masterOfThree();
        whichIsNamedFirst();
        Check.end();
    }

    // "No fields."
    private static void noFieldsAtFirst() {
        for (int field : new int[] {Integer.MIN_VALUE, -2, -1, 0, 1, 39, 40, Integer.MAX_VALUE}) {
            Probe.allRefused(Check.NO_SUCH, FormFields::new,
                    x -> x.value(field, -1), x -> x.option(field, 1), x -> x.set(field, 0, 0),
                    x -> bounds(x, field), x -> x.formula(field, -1, 0, 0), x -> x.fails(field, true),
                    x -> x.shown(field, 0), x -> x.size(field), x -> x.validate(field),
                    x -> x.appearance(field), x -> x.flatten(field), x -> x.lock(field, true));
        }
    }

    private static int bounds(FormFields x, int field) {
        x.bounds(field, 0, 0);
        return 0;
    }

    private static void nothingElseAtFirst() {
        Check.due(0, new FormFields().write());
        Check.due(0, new FormFields().calculate());
        Check.due(0, new FormFields().failed(-1));
        Check.due(0, new FormFields().read(-1));
        Check.due(1, new FormFields().read(10));
        Check.due(0, new FormFields().field(-1, Check.GROUP, 0));
        Probe.allRefused(Check.INDEX, FormFields::new,
                x -> x.failed(0), x -> x.failed(-2), x -> x.mark(0, 0), x -> x.page(0, 0));
        Probe.refused(Check.ARRAY_INDEX, FormFields::new, x -> x.at(0));
    }

    private static void objectsAreApart() {
        Supplier<FormFields> alone = FormFields::new;
        Probe.alike(alone, () -> {
            FormFields x = new FormFields();
            Forms.rich();
            return x;
        });
        Probe.alike(Forms::rich, Forms::rich);
    }

    // "FIELDS 0, 1, .. (40 at most)"; "UnsupportedOperationException when there are 40"
    private static void fortyAtMost() {
        Check.due(38, Forms.texts(38).field(-1, Check.TEXT, 38));
        Check.due(39, Forms.texts(39).field(-1, Check.TEXT, 39));
        for (int kind = 0; kind <= 5; kind++) {
            int one = kind;
            Probe.refused(Check.UNSUPPORTED, () -> Forms.texts(40), x -> x.field(-1, one, 40));
        }
        FormFields x = Forms.texts(40);
        Check.due(1, x.value(39, 65));
        Check.refused(Check.UNSUPPORTED, () -> x.field(-1, Check.TEXT, 999));
        Check.due(65, x.shown(39, 0));
        Check.refused(Check.NO_SUCH, () -> x.shown(40, 0));
    }

    private static void fortyOfOneFullName() {
        FormFields x = new FormFields();
        for (int i = 0; i < 40; i++) {
            Check.due(i, x.field(-1, Check.TEXT, 7));
        }
        Check.refused(Check.UNSUPPORTED, () -> x.field(-1, Check.TEXT, 7));
        Check.due(1, x.value(39, 65));
        Check.due(65, x.shown(0, 0));
        Check.due("7=A\n", Check.data(x));
    }

    // "a KIND: 0 GROUP .. 5 NUMBER"; "IllegalArgumentException when kind is not 0 .. 5"
    private static void kindZeroToFive() {
        for (int kind = 0; kind <= 5; kind++) {
            Check.due(0, new FormFields().field(-1, kind, 1));
        }
        for (int kind : new int[] {Integer.MIN_VALUE, -1, 6, 7, Integer.MAX_VALUE}) {
            Probe.refused(Check.ARGUMENT, FormFields::new, x -> x.field(-1, kind, 1));
            Probe.refused(Check.ARGUMENT, Forms::rich, x -> x.field(Forms.GROUP, kind, 99));
        }
    }

    // "a NAME 0 .. 999"; "name not 0 .. 999"
    private static void nameZeroTo999() {
        for (int name : new int[] {0, 1, 998, 999}) {
            FormFields x = new FormFields();
            Check.due(0, x.field(-1, Check.TEXT, name));
            Check.due(name + "=\n", Check.data(x));
        }
        for (int name : new int[] {Integer.MIN_VALUE, -1, 1000, 1001, Integer.MAX_VALUE}) {
            Probe.refused(Check.ARGUMENT, FormFields::new, x -> x.field(-1, Check.TEXT, name));
            Probe.refused(Check.ARGUMENT, Forms::rich, x -> x.field(Forms.GROUP, Check.GROUP, name));
        }
    }

    // "a PARENT, a GROUP or none (-1)"; "NoSuchElementException (parent, if it is not -1)"
    private static void parentIsThere() {
        Check.due(0, new FormFields().field(-1, Check.TEXT, 1));
        Probe.allRefused(Check.NO_SUCH, FormFields::new,
                x -> x.field(-2, Check.TEXT, 1), x -> x.field(0, Check.TEXT, 1));
        Check.due(1, Forms.one(Check.GROUP).field(0, Check.TEXT, 1));
        Check.due(1, Forms.one(Check.GROUP).field(-1, Check.TEXT, 2));
        for (int parent : new int[] {Integer.MIN_VALUE, -2, 1, 2, 39, 40, Integer.MAX_VALUE}) {
            Probe.refused(Check.NO_SUCH, () -> Forms.one(Check.GROUP), x -> x.field(parent, Check.TEXT, 1));
        }
        Probe.refused(Check.NO_SUCH, Forms::rich, x -> x.field(Forms.COUNT, Check.TEXT, 1));
    }

    // "or the parent no GROUP"
    private static void parentIsGroup() {
        for (int kind = 1; kind <= 5; kind++) {
            int parent = kind;
            Probe.refused(Check.ARGUMENT, Forms::kinds, x -> x.field(parent, Check.TEXT, 1));
            Probe.refused(Check.ARGUMENT, Forms::kinds, x -> x.field(parent, Check.GROUP, 1));
        }
        Check.due(6, Forms.kinds().field(0, Check.TEXT, 1));
    }

    // "Fields of one FULL NAME are of one KIND"; "IllegalStateException when one .. is of another KIND"
    private static void oneKindForOneFullName() {
        for (int first = 0; first <= 5; first++) {
            for (int second = 0; second <= 5; second++) {
                int kind = first;
                int other = second;
                if (kind == other) {
                    Check.due(1, Forms.one(kind).field(-1, kind, 1));
                } else {
                    Probe.refused(Check.STATE, () -> Forms.one(kind), x -> x.field(-1, other, 1));
                }
                Check.due(1, Forms.one(kind).field(-1, other, 2));
                Check.due(1, Forms.one(kind).field(-1, other, 0));
            }
        }
        for (int name = 3; name <= 10; name++) {
            int there = name;
            int other = name == 3 ? Check.TEXT : Check.BOX;
            if (name != 6) {
                Probe.refused(Check.STATE, Forms::rich, x -> x.field(-1, other, there));
            }
        }
        Probe.refused(Check.STATE, Forms::rich, x -> x.field(Forms.GROUP, Check.BOX, 2));
        Probe.refused(Check.STATE, Forms::rich, x -> x.field(Forms.GROUP, Check.BOX, 6));
        Check.due(Forms.COUNT, Forms.rich().field(-1, Check.BOX, 6));
    }

    private static void oneKindThroughGroupsOfOneFullName() {
        Supplier<FormFields> made = () -> {
            FormFields x = new FormFields();
            x.field(-1, Check.GROUP, 1);
            x.field(0, Check.GROUP, 2);
            x.field(1, Check.BOX, 3);
            x.field(-1, Check.GROUP, 1);
            x.field(3, Check.GROUP, 2);
            return x;
        };
        Probe.refused(Check.STATE, made, x -> x.field(4, Check.TEXT, 3));
        Probe.refused(Check.STATE, made, x -> x.field(3, Check.TEXT, 2));
        Check.due(5, made.get().field(4, Check.BOX, 3));
        Check.due(5, made.get().field(4, Check.TEXT, 2));
        Check.due(5, made.get().field(3, Check.TEXT, 3));
        Check.due(5, made.get().field(3, Check.TEXT, 1));
        Check.due(5, made.get().field(-1, Check.TEXT, 3));
    }

    // "The FULL NAME is the row of names from above down to the field."
    private static void fullNameIsTheWholeRow() {
        FormFields x = new FormFields();
        x.field(-1, Check.GROUP, 1);
        x.field(-1, Check.GROUP, 12);
        x.field(0, Check.TEXT, 23);
        x.field(1, Check.BOX, 3);
        x.field(-1, Check.NUMBER, 123);
        x.field(0, Check.GROUP, 2);
        x.field(5, Check.CHOICE, 3);
        x.field(0, Check.RADIO, 12);
        x.field(1, Check.CHOICE, 1);
        Check.due("1.23=\n12.3=0\n123=\n1.2.3=\n1.12=\n12.1=\n", Check.data(x));
    }

    private static void fullNameOfFortyNames() {
        FormFields x = new FormFields();
        StringBuilder name = new StringBuilder();
        for (int i = 0; i < 39; i++) {
            Check.due(i, x.field(i - 1, Check.GROUP, 999));
            name.append("999.");
        }
        Check.due(39, x.field(38, Check.TEXT, 999));
        Check.due(name + "999=\n", Check.data(x));
        Check.due(1, Check.read(x, name + "999=a\n"));
        Check.due("a", Check.shown(x, 39));
        Check.refused(Check.UNSUPPORTED, () -> x.field(38, Check.TEXT, 999));
        Check.refused(Check.STATE, () -> x.field(38, Check.BOX, 999));
    }

    // "the first of them (no GROUP) is the MASTER of all: what is told of a field is told of its MASTER"
    private static void firstOfAFullNameIsMaster() {
        FormFields x = new FormFields();
        x.field(-1, Check.GROUP, 1);
        x.field(-1, Check.GROUP, 1);
        x.field(1, Check.NUMBER, 5);
        x.field(0, Check.NUMBER, 5);
        x.formula(3, 7, 1, 0);
        x.fails(3, true);
        x.calculate();
        Check.due(2, x.failed(0));
        Check.due(1, x.fails(2, false));
        Check.due(1, x.calculate());
        Check.due("1.5=0.001\n", Check.data(x));
        Check.due(1, x.formula(2, -1, 0, 0));
    }

    private static void masterOfThree() {
        FormFields x = new FormFields();
        for (int i = 0; i < 3; i++) {
            x.field(-1, Check.RADIO, 1);
        }
        Check.due(0, x.option(2, 5));
        Check.due(1, x.option(1, 6));
        Check.refused(Check.ARGUMENT, () -> x.option(0, 5));
        Check.due(1, x.value(2, 1));
        Check.due(54, x.shown(0, 0));
        Check.due(54, x.shown(1, 0));
        Check.refused(Check.ARGUMENT, () -> x.value(1, -1));
        Check.due(0, x.set(1, 2, 1));
        Check.due(-1, x.value(0, -1));
        Check.due(-1, x.shown(2, 0));
        Check.due(0, x.set(2, 0, 1));
        Check.due(2, x.validate(1));
        Check.due(0, x.lock(1, true));
        Check.refused(Check.STATE, () -> x.value(2, 0));
        Check.due(1, x.lock(2, false));
    }

    // "where several exceptions that a call names fit, it is the one that it names first"
    private static void whichIsNamedFirst() {
        Supplier<FormFields> full = () -> Forms.texts(40);
        Probe.allRefused(Check.NO_SUCH, full,
                x -> x.field(40, 6, 1), x -> x.field(-2, Check.TEXT, 1000), x -> x.field(41, Check.TEXT, 1));
        Probe.allRefused(Check.ARGUMENT, full,
                x -> x.field(0, Check.TEXT, 1), x -> x.field(-1, 6, 1), x -> x.field(-1, Check.BOX, 1000),
                x -> x.field(-1, -1, 1));
        Probe.refused(Check.STATE, full, x -> x.field(-1, Check.BOX, 0));
        Probe.refused(Check.STATE, full, x -> x.field(-1, Check.GROUP, 39));
        Probe.refused(Check.UNSUPPORTED, full, x -> x.field(-1, Check.TEXT, 0));
        Probe.refused(Check.NO_SUCH, FormFields::new, x -> x.field(0, -1, -1));
        Probe.refused(Check.ARGUMENT, () -> Forms.one(Check.TEXT), x -> x.field(-1, 6, 1));
    }
}
