import java.util.ArrayList;
import java.util.NoSuchElementException;

/**
 * Fields of a form in a tree: texts, boxes, radios, choices and numbers, with one value for all of
 * one full name; formulas, rules, what is shown and how large, marks on a page, values written and
 * read. Words in capitals (MASTER, SIGNS, ..) are the document's terms.
 */
public final class FormFields {
    private static final int GROUP = 0;
    private static final int TEXT = 1;
    private static final int BOX = 2;
    private static final int RADIO = 3;
    private static final int CHOICE = 4;
    private static final int NUMBER = 5;

    private static final int REQUIRED = 0;
    private static final int CELLS = 1;
    private static final int OFF = 2;
    private static final int DECIMALS = 3;
    private static final int COMMAS = 4;
    private static final int WIDTH = 5;
    private static final int HEIGHT = 6;
    private static final int SIDE = 7;

    private static final int NO_FORMULA = -1;
    private static final int SUM = 0;
    private static final int LESS = 1;
    private static final int TIMES = 2;
    private static final int BY = 3;
    private static final int LESSER = 4;
    private static final int GREATER = 5;
    private static final int GROUP_SUM = 6;
    private static final int CONSTANT = 7;

    private static final int NONE = -1;
    private static final int NO_PARENT = -1;
    private static final int LINE_END = 10;
    private static final int COMMA = 44;
    private static final int MINUS = 45;
    private static final int POINT = 46;
    private static final int ZERO = 48;
    private static final int NINE = 57;
    private static final int EQUALS = 61;
    private static final int CROSS = 88;

    private static final int MOST_FIELDS = 40;
    private static final int MOST_NAME = 999;
    private static final int MOST_TEXT_SIGNS = 30;
    private static final int MOST_NUMBER_SIGNS = 14;
    private static final int MOST_OPTIONS = 12;
    private static final int MOST_CODE = 99999;
    private static final int MOST_LENGTH = 100000;
    private static final int MOST_PAGE_MARKS = 400;
    private static final int MOST_INPUT = 3000;
    /** 24 TEXTS of 30 SIGNS below 16 GROUPS, the longest DATA that 40 fields can have, are 2376. */
    private static final int MOST_DATA = 2400;
    /** 40 names of three digits with 39 points between them are 159. */
    private static final int MOST_FULL_NAME = 160;

    private static final int GREATEST_SIZE = 96;
    private static final int LEAST_SIZE = 6;

    private static final long MOST_AMOUNT = 999999999999L;
    /** Stands for an AMOUNT that is not there: far beyond those that there are. */
    private static final long NO_AMOUNT = Long.MIN_VALUE;

    private final ArrayList<Field> fields = new ArrayList<>();
    private final Calculation calculation = new Calculation();
    private final Row display = new Row(MOST_TEXT_SIGNS);
    private final Marks madeMarks = new Marks(MOST_TEXT_SIGNS + 1);
    private final Marks pageMarks = new Marks(MOST_PAGE_MARKS);
    private final Row data = new Row(MOST_DATA);
    private final Input input = new Input();

    public FormFields() {
    }

    public int field(int parent, int kind, int name)
            throws NoSuchElementException, IllegalArgumentException, IllegalStateException,
            UnsupportedOperationException {
        Field above = parent == NO_PARENT ? null : found(parent);
        if (kind < GROUP || kind > NUMBER || name < 0 || name > MOST_NAME) {
            throw new IllegalArgumentException("no such kind or name");
        }
        if (above != null && above.kind != GROUP) {
            throw new IllegalArgumentException("the parent is no group");
        }
        Field earlier = firstNamed(above, name);
        if (earlier != null && earlier.kind != kind) {
            throw new IllegalStateException("the full name is of another kind");
        }
        int number = fields.size();
        if (number >= MOST_FIELDS) {
            throw new UnsupportedOperationException("all fields are there");
        }
        fields.add(new Field(number, kind, name, above, earlier));
        return number;
    }

    public int value(int field, int c)
            throws NoSuchElementException, IllegalArgumentException, IllegalStateException,
            UnsupportedOperationException {
        Field own = found(field);
        Field master = own.first();
        if (!master.couldBeTold(c)) {
            throw new IllegalArgumentException("no value of this field");
        }
        if (master.locked || own.flat) {
            throw new IllegalStateException("the field is locked or flat");
        }
        if (!master.hasSigns()) {
            master.chosen = c;
            return c;
        }
        if (c == NONE) {
            master.signs.clear();
        } else if (master.signs.count() >= master.mostSigns()) {
            throw new UnsupportedOperationException("all signs are there");
        } else {
            master.signs.put(c);
        }
        return master.signs.count();
    }

    public int option(int field, int code)
            throws NoSuchElementException, IllegalArgumentException, UnsupportedOperationException {
        Field master = found(field).first();
        if (!master.hasOptions() || code < 0 || code > MOST_CODE) {
            throw new IllegalArgumentException("no options here, or no code");
        }
        if (master.codes.find(code, 0) != NONE) {
            throw new IllegalArgumentException("the code is there");
        }
        int number = master.codes.count();
        if (number >= MOST_OPTIONS) {
            throw new UnsupportedOperationException("all options are there");
        }
        master.codes.put(code);
        return number;
    }

    public int set(int field, int what, int v)
            throws NoSuchElementException, IllegalArgumentException {
        Field own = found(field);
        Field master = own.first();
        if (!hasSetting(own.kind, what) || !isSettingOf(master, what, v)) {
            throw new IllegalArgumentException("no such setting of this field");
        }
        Field holder = what >= WIDTH ? own : master;
        int was = holder.setting(what);
        holder.putSetting(what, v);
        return was;
    }

    public void bounds(int field, long least, long most)
            throws NoSuchElementException, IllegalArgumentException {
        Field master = found(field).first();
        if (master.kind != NUMBER) {
            throw new IllegalArgumentException("no number");
        }
        if (least < -MOST_AMOUNT || most > MOST_AMOUNT || least > most) {
            throw new IllegalArgumentException("no such bounds");
        }
        master.least = least;
        master.most = most;
    }

    public int formula(int field, int op, int a, int b)
            throws NoSuchElementException, IllegalArgumentException {
        Field own = found(field);
        boolean ofTwo = op >= SUM && op <= GREATER;
        Field left = ofTwo || op == GROUP_SUM ? found(a) : null;
        Field right = ofTwo ? found(b) : null;
        if (own.kind != NUMBER || op < NO_FORMULA || op > CONSTANT) {
            throw new IllegalArgumentException("no number, or no such formula");
        }
        if (ofTwo && !(canHaveAmount(left) && canHaveAmount(right))) {
            throw new IllegalArgumentException("neither number nor box");
        }
        if (op == GROUP_SUM && !isGroup(left)) {
            throw new IllegalArgumentException("no group");
        }
        Formula formula = own.first().formula;
        int was = formula.op == NO_FORMULA ? 0 : 1;
        formula.op = op;
        formula.left = left;
        formula.right = right;
        formula.constant = a;
        return was;
    }

    public int calculate() {
        return calculation.workOutAll(fields);
    }

    public int failed(int i) throws IndexOutOfBoundsException {
        int count = calculation.failures.count();
        if (i == NONE) {
            return count;
        }
        if (i < 0 || i >= count) {
            throw new IndexOutOfBoundsException("no such failure");
        }
        return calculation.failures.item(i);
    }

    public int fails(int field, boolean on)
            throws NoSuchElementException, IllegalArgumentException {
        Field master = found(field).first();
        if (master.kind != NUMBER) {
            throw new IllegalArgumentException("no number");
        }
        int was = master.formula.toldToFail ? 1 : 0;
        master.formula.toldToFail = on;
        return was;
    }

    public int shown(int field, int i) throws NoSuchElementException {
        fillDisplay(found(field));
        return display.item(i);
    }

    public int size(int field) throws NoSuchElementException, IllegalArgumentException {
        Field own = foundNoGroup(field);
        fillDisplay(own);
        int size = greatestFitting(own);
        return size == 0 ? -LEAST_SIZE : size;
    }

    public int validate(int field) throws NoSuchElementException, IllegalArgumentException {
        Field master = foundNoGroup(field).first();
        if (master.setting(REQUIRED) == 1 && master.isEmpty()) {
            return 2;
        }
        if (master.kind != NUMBER || master.isEmpty()) {
            return 1;
        }
        long amount = master.amount();
        if (amount == NO_AMOUNT) {
            return 3;
        }
        if (amount < master.least) {
            return 4;
        }
        return amount > master.most ? 5 : 1;
    }

    public int appearance(int field) throws NoSuchElementException, IllegalArgumentException {
        Field own = foundNoGroup(field);
        fillDisplay(own);
        madeMarks.clear();
        layMarks(own, madeMarks);
        return madeMarks.count();
    }

    public int mark(int i, int what) throws IndexOutOfBoundsException {
        if (i < 0 || i >= madeMarks.count() || what < 0 || what >= Marks.FIELD) {
            throw new IndexOutOfBoundsException("no such mark");
        }
        return madeMarks.part(i, what);
    }

    public int flatten(int field)
            throws NoSuchElementException, IllegalArgumentException, IllegalStateException,
            UnsupportedOperationException {
        Field own = foundNoGroup(field);
        if (own.flat) {
            throw new IllegalStateException("the field is flat");
        }
        fillDisplay(own);
        if (pageMarks.count() + 1 + display.count() > MOST_PAGE_MARKS) {
            throw new UnsupportedOperationException("the page is full");
        }
        layMarks(own, pageMarks);
        own.flat = true;
        return pageMarks.count();
    }

    public int page(int i, int what) throws IndexOutOfBoundsException {
        if (i < 0 || i >= pageMarks.count() || what < 0 || what > Marks.FIELD) {
            throw new IndexOutOfBoundsException("no such mark");
        }
        return pageMarks.part(i, what);
    }

    public int write() {
        data.clear();
        for (int i = 0; i < fields.size(); i++) {
            Field one = fields.get(i);
            if (one.isMaster()) {
                one.putFullName(data);
                data.put(EQUALS);
                one.putValue(data);
                data.put(LINE_END);
            }
        }
        return data.count();
    }

    public int at(int i) throws ArrayIndexOutOfBoundsException {
        if (i < 0 || i >= data.count()) {
            throw new ArrayIndexOutOfBoundsException("no such byte");
        }
        return data.item(i);
    }

    public int read(int c) throws IllegalArgumentException, UnsupportedOperationException {
        if (c < NONE || c > 255) {
            throw new IllegalArgumentException("no byte");
        }
        if (c == NONE) {
            return input.takeAll(fields);
        }
        if (input.bytes.count() >= MOST_INPUT) {
            throw new UnsupportedOperationException("all bytes are there");
        }
        input.bytes.put(c);
        return input.bytes.count();
    }

    public int lock(int field, boolean on)
            throws NoSuchElementException, IllegalArgumentException {
        Field master = foundNoGroup(field).first();
        int was = master.locked ? 1 : 0;
        master.locked = on;
        return was;
    }

    private Field found(int number) {
        if (number < 0 || number >= fields.size()) {
            throw new NoSuchElementException("no such field");
        }
        return fields.get(number);
    }

    private Field foundNoGroup(int number) {
        Field own = found(number);
        if (own.kind == GROUP) {
            throw new IllegalArgumentException("a group");
        }
        return own;
    }

    /** The first field with this FULL NAME, or null: parents are alike if their first fields are one. */
    private Field firstNamed(Field parent, int name) {
        Field firstParent = parent == null ? null : parent.first();
        for (int i = 0; i < fields.size(); i++) {
            Field one = fields.get(i);
            Field itsParent = one.parent == null ? null : one.parent.first();
            if (one.name == name && itsParent == firstParent) {
                return one;
            }
        }
        return null;
    }

    private static boolean hasSetting(int kind, int what) {
        switch (what) {
            case CELLS:
                return kind == TEXT;
            case OFF:
                return kind == RADIO;
            case DECIMALS:
            case COMMAS:
                return kind == NUMBER;
            case REQUIRED:
            case WIDTH:
            case HEIGHT:
            case SIDE:
                return kind != GROUP;
            default:
                return false;
        }
    }

    private static boolean isSettingOf(Field master, int what, int v) {
        switch (what) {
            case CELLS:
                return v == 0 || v >= Math.max(1, master.signs.count()) && v <= MOST_TEXT_SIGNS;
            case DECIMALS:
                return v >= 0 && v <= 3;
            case WIDTH:
            case HEIGHT:
                return v >= 0 && v <= MOST_LENGTH;
            case SIDE:
                return v >= 0 && v <= 2;
            default:
                return v == 0 || v == 1;
        }
    }

    private static boolean canHaveAmount(Field one) {
        return one != null && (one.kind == NUMBER || one.kind == BOX);
    }

    private static boolean isGroup(Field one) {
        return one != null && one.kind == GROUP;
    }

    /** Puts what is SHOWN of a field into the row for it, which size and marks then go by. */
    private void fillDisplay(Field own) {
        Field master = own.first();
        display.clear();
        long amount = master.kind == NUMBER && !master.isEmpty() ? master.amount() : NO_AMOUNT;
        if (amount != NO_AMOUNT) {
            int decimals = master.setting(DECIMALS);
            long rounded = Amounts.rounded(amount, decimals);
            display.putDecimal(rounded, decimals, master.setting(COMMAS) == 1);
        } else if (master.kind != BOX) {
            master.putValue(display);
        } else if (master.chosen == 1) {
            display.put(CROSS);
        }
    }

    /** The greatest SIZE that FITS what the row of SHOWN SIGNS holds; 0 when none does. */
    private int greatestFitting(Field own) {
        int cells = own.first().setting(CELLS);
        int signs = cells > 0 ? cells : display.count();
        for (int size = GREATEST_SIZE; size >= LEAST_SIZE; size /= 2) {
            if (signs * (size / 2) <= own.setting(WIDTH) && size + size / 4 <= own.setting(HEIGHT)) {
                return size;
            }
        }
        return 0;
    }

    /** Lays the frame and the SIGNS that the row of SHOWN SIGNS holds behind the marks there. */
    private void layMarks(Field own, Marks marks) {
        int size = Math.max(LEAST_SIZE, greatestFitting(own));
        int cells = own.first().setting(CELLS);
        int begin = beginning(own, display.count() * (size / 2));
        int y = (own.setting(HEIGHT) - size) / 2;
        marks.put(0, 0, 0, 0, own.number);
        for (int k = 0; k < display.count(); k++) {
            int x = cells > 0 ? inCell(k, cells, own.setting(WIDTH), size) : begin + k * (size / 2);
            marks.put(display.item(k), x, y, size, own.number);
        }
    }

    private static int beginning(Field own, int used) {
        int left = own.setting(WIDTH) - used;
        switch (own.setting(SIDE)) {
            case 1:
                return left / 2;
            case 2:
                return left;
            default:
                return 0;
        }
    }

    private static int inCell(int k, int cells, int width, int size) {
        if (cells <= 0) {
            return 0;
        }
        return k * width / cells + (width / cells - size / 2) / 2;
    }

    /** Numbers in a row with room for so many; made once and used again, so that calls make none. */
    private static final class Row {
        private final int[] items;
        private int count;

        Row(int most) {
            items = new int[Math.max(0, most)];
        }

        int count() {
            return count;
        }

        int item(int i) {
            return i >= 0 && i < count ? items[i] : NONE;
        }

        void clear() {
            count = 0;
        }

        void put(int item) {
            if (count < items.length) {
                items[count] = item;
                count++;
            }
        }

        void putPart(Row other, int from, int to) {
            for (int i = from; i < to; i++) {
                put(other.item(i));
            }
        }

        /** Where the item stands first, from there on; NONE when it does not. */
        int find(int item, int from) {
            for (int i = Math.max(0, from); i < count; i++) {
                if (items[i] == item) {
                    return i;
                }
            }
            return NONE;
        }

        boolean isPart(Row other, int from, int to) {
            if (count != to - from) {
                return false;
            }
            for (int i = 0; i < count; i++) {
                if (items[i] != other.item(from + i)) {
                    return false;
                }
            }
            return true;
        }

        /** The number that a part has the digits of, none too many; NONE when it has not. */
        int number(int from, int to) {
            int length = to - from;
            if (length < 1 || length > 9 || length > 1 && item(from) == ZERO) {
                return NONE;
            }
            int number = 0;
            for (int i = from; i < to; i++) {
                int digit = item(i) - ZERO;
                if (digit < 0 || digit > 9) {
                    return NONE;
                }
                number = 10 * number + digit;
            }
            return number;
        }

        /** So many units of the last of the decimals, as digits with a point. */
        void putDecimal(long units, int decimals, boolean commas) {
            int begin = count;
            putDigitsBackwards(Math.abs(units), decimals, commas);
            if (units < 0) {
                put(MINUS);
            }
            reverseFrom(begin);
        }

        /** The last digit first, since that is how divisions by ten give them. */
        void putDigitsBackwards(long units, int decimals, boolean commas) {
            long rest = units;
            for (int i = 0; i < 19 && (i <= decimals || rest > 0); i++) {
                if (i > 0 && i == decimals) {
                    put(POINT);
                }
                if (commas && i > decimals && (i - decimals) % 3 == 0) {
                    put(COMMA);
                }
                put(ZERO + (int) (rest % 10));
                rest /= 10;
            }
        }

        void reverseFrom(int begin) {
            int low = Math.max(0, begin);
            int high = count - 1;
            while (low < high) {
                int item = items[low];
                items[low] = items[high];
                items[high] = item;
                low++;
                high--;
            }
        }
    }

    /** MARKS in a row, each with its SIGN, x, y, SIZE and field. */
    private static final class Marks {
        static final int FIELD = 4;
        private static final int PARTS = 5;

        private final Row parts;

        Marks(int most) {
            parts = new Row(most * PARTS);
        }

        int count() {
            return parts.count() / PARTS;
        }

        void clear() {
            parts.clear();
        }

        void put(int sign, int x, int y, int size, int field) {
            parts.put(sign);
            parts.put(x);
            parts.put(y);
            parts.put(size);
            parts.put(field);
        }

        int part(int i, int what) {
            return parts.item(i * PARTS + what);
        }
    }

    /** A field of the tree; its value, rules and formula count only while it is a MASTER. */
    private static final class Field {
        final int number;
        final int kind;
        final int name;
        final Field parent;
        /** The first field of the same FULL NAME, null when it is this one. */
        final Field earlier;
        /** A bit for each GROUP that it is in, at any depth. */
        final long above;
        final Row signs = new Row(MOST_TEXT_SIGNS);
        final Row codes = new Row(MOST_OPTIONS);
        final Formula formula = new Formula();
        /** Whether a BOX is 1, or the OPTION of a RADIO or CHOICE. */
        int chosen;
        boolean locked;
        boolean flat;
        long least = -MOST_AMOUNT;
        long most = MOST_AMOUNT;
        private final int[] settings = {0, 0, 0, 3, 0, 800, 160, 0};

        Field(int number, int kind, int name, Field parent, Field earlier) {
            this.number = number;
            this.kind = kind;
            this.name = name;
            this.parent = parent;
            this.earlier = earlier;
            above = parent == null ? 0 : parent.above | 1L << parent.number;
            chosen = kind == BOX ? 0 : NONE;
        }

        /** The MASTER; of a GROUP, which has none, the first of its FULL NAME. */
        Field first() {
            return earlier == null ? this : earlier;
        }

        boolean isMaster() {
            return earlier == null && kind != GROUP;
        }

        boolean hasSigns() {
            return kind == TEXT || kind == NUMBER;
        }

        boolean hasOptions() {
            return kind == RADIO || kind == CHOICE;
        }

        int setting(int what) {
            return what >= 0 && what < settings.length ? settings[what] : 0;
        }

        void putSetting(int what, int v) {
            if (what >= 0 && what < settings.length) {
                settings[what] = v;
            }
        }

        int mostSigns() {
            if (kind == NUMBER) {
                return MOST_NUMBER_SIGNS;
            }
            int cells = setting(CELLS);
            return cells > 0 ? cells : MOST_TEXT_SIGNS;
        }

        boolean isSign(int c) {
            if (kind == TEXT) {
                return c >= 32 && c <= 126;
            }
            return kind == NUMBER && (c >= ZERO && c <= NINE || c == MINUS || c == POINT);
        }

        /** Whether value() takes it, if there is room for it. */
        boolean couldBeTold(int c) {
            switch (kind) {
                case TEXT:
                case NUMBER:
                    return c == NONE || isSign(c);
                case BOX:
                    return c == 0 || c == 1;
                case RADIO:
                case CHOICE:
                    return c == NONE ? canBeNone() : c >= 0 && c < codes.count();
                default:
                    return false;
            }
        }

        boolean canBeNone() {
            return kind == CHOICE || setting(OFF) == 1 || chosen == NONE;
        }

        boolean isEmpty() {
            if (hasSigns()) {
                return signs.count() == 0;
            }
            return chosen == (kind == BOX ? 0 : NONE);
        }

        long amount() {
            if (kind == BOX) {
                return 1000L * chosen;
            }
            return kind == NUMBER ? Amounts.told(signs) : NO_AMOUNT;
        }

        /** From below upwards, and turned round then: that is the way the parents lead. */
        void putFullName(Row out) {
            int begin = out.count();
            for (Field one = this; one != null; one = one.parent) {
                if (out.count() > begin) {
                    out.put(POINT);
                }
                out.putDigitsBackwards(one.name, 0, false);
            }
            out.reverseFrom(begin);
        }

        void putValue(Row out) {
            if (hasSigns()) {
                out.putPart(signs, 0, signs.count());
            } else if (kind == BOX) {
                out.put(ZERO + chosen);
            } else if (hasOptions() && chosen != NONE) {
                out.putDecimal(codes.item(chosen), 0, false);
            }
        }
    }

    /** The FORMULA that a NUMBER has, or none; whether it is told to FAIL outlasts the formula. */
    private static final class Formula {
        int op = NO_FORMULA;
        Field left;
        Field right;
        long constant;
        boolean toldToFail;
    }

    /** AMOUNTS in thousandths, read from SIGNS and reckoned with. */
    private static final class Amounts {
        /** In one pass, and refused at the first SIGN that stands where it may not. */
        static long told(Row signs) {
            if (signs.count() == 0) {
                return 0;
            }
            long digits = 0;
            int whole = 0;
            int decimals = NONE;
            for (int i = 0; i < signs.count(); i++) {
                int sign = signs.item(i);
                if (sign >= ZERO && sign <= NINE) {
                    digits = 10 * digits + sign - ZERO;
                    whole += decimals == NONE ? 1 : 0;
                    decimals += decimals == NONE ? 0 : 1;
                } else if (sign == POINT && decimals == NONE) {
                    decimals = 0;
                } else if (sign != MINUS || i > 0) {
                    return NO_AMOUNT;
                }
            }
            if (whole < 1 || whole > 9 || decimals == 0 || decimals > 3) {
                return NO_AMOUNT;
            }
            long amount = digits * tens(3 - Math.max(0, decimals));
            return signs.item(0) == MINUS ? -amount : amount;
        }

        static int tens(int zeros) {
            int number = 1;
            for (int i = 0; i < zeros && i < 9; i++) {
                number *= 10;
            }
            return number;
        }

        /** In units of the last of the decimals, the half away from 0. */
        static long rounded(long amount, int decimals) {
            int unit = tens(3 - decimals);
            if (unit <= 0) {
                return amount;
            }
            long away = (Math.abs(amount) + unit / 2) / unit;
            return amount < 0 ? -away : away;
        }

        static void putAmount(long amount, Row out) {
            long units = amount;
            int decimals = 3;
            while (decimals > 0 && units % 10 == 0) {
                units /= 10;
                decimals--;
            }
            out.putDecimal(units, decimals, false);
        }

        static long ofTwo(int op, long a, long b) {
            switch (op) {
                case SUM:
                    return a + b;
                case LESS:
                    return a - b;
                case TIMES:
                    return times(a, b);
                case BY:
                    return b == 0 ? NO_AMOUNT : 1000 * a / b;
                case LESSER:
                    return Math.min(a, b);
                default:
                    return Math.max(a, b);
            }
        }

        /** Whole units and the rest apart: the product of both amounts would not go into a long. */
        private static long times(long a, long b) {
            long size = Math.abs(a);
            long other = Math.abs(b);
            long whole = size / 1000;
            if (whole > 0 && other > MOST_AMOUNT / whole) {
                return NO_AMOUNT;
            }
            long product = whole * other + size % 1000 * other / 1000;
            return (a < 0) == (b < 0) ? product : -product;
        }

        static boolean isBeyond(long amount) {
            return amount < -MOST_AMOUNT || amount > MOST_AMOUNT;
        }
    }

    /** Works out all FORMULAS; what each NEEDS is a set of bits, one for each MASTER. */
    private static final class Calculation {
        final Row failures = new Row(MOST_FIELDS);
        private final Row written = new Row(MOST_NUMBER_SIGNS);
        private final long[] needs = new long[MOST_FIELDS];
        private final long[] reached = new long[MOST_FIELDS];

        int workOutAll(ArrayList<Field> fields) {
            int count = Math.min(fields.size(), MOST_FIELDS);
            long waiting = gatherNeeds(fields, count);
            int ring = leastInRing(count);
            if (ring != NONE) {
                return -1 - ring;
            }
            failures.clear();
            int changed = 0;
            for (int i = 0; i < count && waiting != 0; i++) {
                int next = leastReady(waiting, count);
                if (next >= 0 && next < count) {
                    Field master = fields.get(next);
                    waiting &= ~(1L << next);
                    changed += takeResult(master, result(master.formula, needs[next], fields));
                }
            }
            return changed;
        }

        /** The bits of all MASTERS that have a FORMULA. */
        private long gatherNeeds(ArrayList<Field> fields, int count) {
            long having = 0;
            for (int i = 0; i < count; i++) {
                Formula formula = fields.get(i).formula;
                needs[i] = 0;
                if (formula.op != NO_FORMULA) {
                    having |= 1L << i;
                    needs[i] = formula.op == GROUP_SUM
                            ? numbersIn(formula.left, fields, count)
                            : bit(formula.left) | bit(formula.right);
                }
            }
            return having;
        }

        private static long bit(Field one) {
            return one == null ? 0 : 1L << one.first().number;
        }

        private static long numbersIn(Field group, ArrayList<Field> fields, int count) {
            long masters = 0;
            for (int i = 0; i < count; i++) {
                Field one = fields.get(i);
                if (group != null && one.kind == NUMBER && (one.above >> group.number & 1) == 1) {
                    masters |= bit(one);
                }
            }
            return masters;
        }

        /** One is in a ring if what it NEEDS, and what that NEEDS, and so on, has itself in it. */
        private int leastInRing(int count) {
            for (int i = 0; i < count; i++) {
                reached[i] = needs[i];
            }
            for (int through = 0; through < count; through++) {
                for (int i = 0; i < count; i++) {
                    if ((reached[i] >> through & 1) == 1) {
                        reached[i] |= reached[through];
                    }
                }
            }
            for (int i = 0; i < count; i++) {
                if ((reached[i] >> i & 1) == 1) {
                    return i;
                }
            }
            return NONE;
        }

        private int leastReady(long waiting, int count) {
            for (int i = 0; i < count; i++) {
                if ((waiting >> i & 1) == 1 && (needs[i] & waiting) == 0) {
                    return i;
                }
            }
            return NONE;
        }

        /** 1 when it has other SIGNS than before, else 0. */
        private int takeResult(Field master, long amount) {
            if (master.formula.toldToFail || Amounts.isBeyond(amount)) {
                failures.put(master.number);
                return 0;
            }
            written.clear();
            Amounts.putAmount(amount, written);
            if (written.isPart(master.signs, 0, master.signs.count())) {
                return 0;
            }
            master.signs.clear();
            master.signs.putPart(written, 0, written.count());
            return 1;
        }

        private static long result(Formula formula, long needed, ArrayList<Field> fields) {
            if (formula.op == CONSTANT) {
                return formula.constant;
            }
            if (formula.op == GROUP_SUM) {
                return sum(needed, fields);
            }
            if (formula.left == null || formula.right == null) {
                return NO_AMOUNT;
            }
            long a = formula.left.first().amount();
            long b = formula.right.first().amount();
            if (a == NO_AMOUNT || b == NO_AMOUNT) {
                return NO_AMOUNT;
            }
            return Amounts.ofTwo(formula.op, a, b);
        }

        private static long sum(long masters, ArrayList<Field> fields) {
            long total = 0;
            for (int i = 0; i < fields.size(); i++) {
                if ((masters >> i & 1) == 1) {
                    long amount = fields.get(i).amount();
                    if (amount == NO_AMOUNT) {
                        return NO_AMOUNT;
                    }
                    total += amount;
                }
            }
            return total;
        }
    }

    /** The bytes that are to be read, and the lines that they are. */
    private static final class Input {
        final Row bytes = new Row(MOST_INPUT);
        private final Row text = new Row(MOST_FULL_NAME);

        /** All lines are looked at before one is taken: a bad one leaves every VALUE alone. */
        int takeAll(ArrayList<Field> fields) {
            int lines = 0;
            int begin = 0;
            boolean good = true;
            for (int i = 0; i < MOST_INPUT && good && begin < bytes.count(); i++) {
                int end = bytes.find(LINE_END, begin);
                good = end != NONE && isGood(begin, end, fields);
                lines += good ? 1 : 0;
                begin = end + 1;
            }
            if (good) {
                takeLines(lines, fields);
            }
            bytes.clear();
            return good ? lines : -1 - lines;
        }

        private void takeLines(int lines, ArrayList<Field> fields) {
            int begin = 0;
            for (int i = 0; i < lines; i++) {
                int end = bytes.find(LINE_END, begin);
                int equals = bytes.find(EQUALS, begin);
                Field master = masterNamed(begin, equals, fields);
                if (master != null) {
                    putValueOf(master, equals + 1, end);
                }
                begin = end + 1;
            }
        }

        private boolean isGood(int begin, int end, ArrayList<Field> fields) {
            int equals = bytes.find(EQUALS, begin);
            if (equals == NONE || equals > end) {
                return false;
            }
            Field master = masterNamed(begin, equals, fields);
            return master != null && !master.locked && isValueOf(master, equals + 1, end);
        }

        private Field masterNamed(int from, int to, ArrayList<Field> fields) {
            for (int i = 0; i < fields.size(); i++) {
                Field one = fields.get(i);
                if (one.isMaster()) {
                    text.clear();
                    one.putFullName(text);
                    if (text.isPart(bytes, from, to)) {
                        return one;
                    }
                }
            }
            return null;
        }

        private boolean isValueOf(Field master, int from, int to) {
            if (master.hasSigns()) {
                return to - from <= master.mostSigns() && areSignsOf(master, from, to);
            }
            if (master.kind == BOX) {
                return to - from == 1 && master.couldBeTold(bytes.item(from) - ZERO);
            }
            return to == from ? master.canBeNone() : optionWritten(master, from, to) != NONE;
        }

        private boolean areSignsOf(Field master, int from, int to) {
            for (int i = from; i < to; i++) {
                if (!master.isSign(bytes.item(i))) {
                    return false;
                }
            }
            return true;
        }

        /** The OPTION whose CODE write() writes so; NONE when there is none. */
        private int optionWritten(Field master, int from, int to) {
            int code = bytes.number(from, to);
            return code == NONE ? NONE : master.codes.find(code, 0);
        }

        private void putValueOf(Field master, int from, int to) {
            if (master.hasSigns()) {
                master.signs.clear();
                master.signs.putPart(bytes, from, to);
            } else if (master.kind == BOX) {
                master.chosen = bytes.item(from) - ZERO;
            } else {
                master.chosen = optionWritten(master, from, to);
            }
        }
    }
}
