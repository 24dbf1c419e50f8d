import java.util.function.Supplier;

/** The boundary cases of promises 18 to 21, each sentence in a test of its own. */
public final class DataEdgesTest {
    private static final String THIRTY = "abcdefghijklmnopqrstuvwxyz0123";
    private static final String FOURTEEN = "1234567890.-12";
    private static final int[] NO_FIELDS = {Integer.MIN_VALUE, -1, Forms.COUNT, 40, Integer.MAX_VALUE};

    public static void main(String[] args) {
        nothingToWrite();
        mastersByNumbers();
        valuesWritten();
        longestLines();
        writingChangesNothingElse();
        atFromTo();
        atBeforeWrite();
        latestData();
        bytesFromTo();
        threeThousandBytes();
        nothingToRead();
        bytesAreGone();
        howManyLines();
        firstLineThatIsNoGood();
        lastLineWithoutItsEnd();
        namesAsWritten();
        noNameOfAGroup();
        lockedIsNoGood();
        flatIsGood();
        textsRead();
        cellsRead();
        numbersRead();
        boxesRead();
        codesRead();
        noneRead();
        oneLineBehindTheOther();
        beforeAnyLineIsTaken();
        noValueChanges();
        valuesOfAllOfAFullName();
        writtenAndReadBack();
        lockOfNoGroup();
        lockedWas();
        lockOfTheMaster();
        Check.end();
    }

    // "THE DATA: of each MASTER": without one there is nothing, and a GROUP is none
    private static void nothingToWrite() {
        Check.due(0, new FormFields().write());
        FormFields x = Forms.one(Check.GROUP);
        x.field(0, Check.GROUP, 2);
        Check.due(0, x.write());
        Check.refused(Check.ARRAY_INDEX, () -> x.at(0));
    }

    // "of each MASTER, by numbers, the FULL NAME (numbers, 46 between them), 61, .. 10"
    private static void mastersByNumbers() {
        FormFields x = new FormFields();
        x.field(-1, Check.GROUP, 900);
        x.field(-1, Check.TEXT, 999);
        x.field(0, Check.TEXT, 0);
        x.field(-1, Check.TEXT, 0);
        x.field(-1, Check.TEXT, 999);
        x.field(-1, Check.GROUP, 900);
        x.field(5, Check.TEXT, 0);
        x.field(5, Check.GROUP, 10);
        x.field(7, Check.BOX, 99);
        Check.due(27, x.write());
        Check.due("999=\n900.0=\n0=\n900.10.99=0\n", Check.data(x));
    }

    // "its VALUE (SIGNS; 48 or 49; the CODE's digits, or nothing)"
    private static void valuesWritten() {
        FormFields x = Forms.kinds();
        x.option(3, 0);
        x.option(4, 99999);
        Check.due("1=\n2=0\n3=\n4=\n5=\n", Check.data(x));
        Check.type(x, 1, " =~");
        x.value(2, 1);
        x.value(3, 0);
        x.value(4, 0);
        Check.type(x, 5, "-007.");
        Check.due("1= =~\n2=1\n3=0\n4=99999\n5=-007.\n", Check.data(x));
        x.set(5, 3, 0);
        x.set(5, 4, 1);
        Check.retype(x, 5, "1234.5");
        Check.due("1= =~\n2=1\n3=0\n4=99999\n5=1234.5\n", Check.data(x));
    }

    /** The longest data of 40 fields, too: beyond the 512 calls that are promised. */
    private static void longestLines() {
        FormFields x = Forms.one(Check.TEXT);
        Check.type(x, 0, THIRTY);
        Check.due(33, x.write());
        Check.due("1=" + THIRTY + "\n", Check.data(x));
        Check.due(17, Forms.typed(Check.NUMBER, FOURTEEN).write());
        FormFields forty = new FormFields();
        StringBuilder due = new StringBuilder();
        for (int i = 0; i < 16; i++) {
            forty.field(i - 1, Check.GROUP, 900);
        }
        for (int i = 16; i < 40; i++) {
            forty.field(15, Check.TEXT, 900 + i);
            String name = "900.".repeat(16) + (900 + i);
            Check.due(1, Check.read(forty, name + "=" + THIRTY + "\n"));
            due.append(name).append('=').append(THIRTY).append('\n');
        }
        Check.due(2376, forty.write());
        Check.due(due.toString(), Check.data(forty));
    }

    private static void writingChangesNothingElse() {
        Probe.alike(Forms::rich, () -> {
            FormFields x = Forms.rich();
            x.write();
            x.write();
            return x;
        });
    }

    // "A byte of the latest DATA, 0 .. 255. ArrayIndexOutOfBoundsException."
    private static void atFromTo() {
        String data = Check.data(Forms.rich());
        FormFields x = Forms.rich();
        for (int i = 0; i < data.length(); i++) {
            Check.due(data.charAt(i), x.at(i));
        }
        int count = data.length();
        for (int i : new int[] {Integer.MIN_VALUE, -2, -1, count, count + 1, 2400, Integer.MAX_VALUE}) {
            Probe.refused(Check.ARRAY_INDEX, Forms::rich, y -> y.at(i));
        }
    }

    private static void atBeforeWrite() {
        for (int i = -1; i <= 1; i++) {
            int one = i;
            Probe.refused(Check.ARRAY_INDEX, Forms::kinds, x -> x.at(one));
        }
    }

    private static void latestData() {
        FormFields x = Forms.typed(Check.TEXT, "ab");
        Check.due(5, x.write());
        Check.retype(x, 0, "xyz");
        x.field(-1, Check.BOX, 2);
        Check.due('a', x.at(2));
        Check.due(10, x.at(4));
        Check.refused(Check.ARRAY_INDEX, () -> x.at(5));
        Check.due(10, x.write());
        Check.due('x', x.at(2));
        Check.due(10, x.at(9));
        x.value(0, -1);
        Check.due(7, x.write());
        Check.due(10, x.at(2));
        Check.refused(Check.ARRAY_INDEX, () -> x.at(7));
    }

    // "A byte 0 .. 255 behind those that are to be read: how many"; "IllegalArgumentException"
    private static void bytesFromTo() {
        FormFields x = new FormFields();
        int count = 0;
        for (int c : new int[] {0, 1, 10, 61, 127, 128, 254, 255}) {
            count++;
            Check.due(count, x.read(c));
        }
        for (int c : new int[] {Integer.MIN_VALUE, -3, -2, 256, 257, Integer.MAX_VALUE}) {
            Probe.refused(Check.ARGUMENT, FormFields::new, y -> y.read(c));
            Probe.refused(Check.ARGUMENT, Forms::rich, y -> y.read(c));
        }
    }

    /** So many bytes to be read: beyond the 512 calls that are promised, the only way to the limit. */
    private static FormFields waiting(int bytes) {
        FormFields x = Forms.one(Check.NUMBER);
        for (int i = 0; i < bytes; i++) {
            Check.due(i + 1, x.read("1=7\n".charAt(i % 4)));
        }
        return x;
    }

    // "UnsupportedOperationException when there are 3000"
    private static void threeThousandBytes() {
        Check.due(2999, waiting(2998).read(10));
        Check.due(3000, waiting(2999).read(10));
        for (int c : new int[] {0, 10, 255}) {
            Probe.refused(Check.UNSUPPORTED, () -> waiting(3000), x -> x.read(c));
        }
        Probe.refused(Check.ARGUMENT, () -> waiting(3000), x -> x.read(256));
        Probe.refused(Check.ARGUMENT, () -> waiting(3000), x -> x.read(-2));
        FormFields x = waiting(3000);
        Check.refused(Check.UNSUPPORTED, () -> x.read('1'));
        Check.due(750, x.read(-1));
        Check.due(1, x.read('1'));
        Check.due("1=7\n", Check.data(x));
    }

    // "(-1) they are read": of none there are 0 lines
    private static void nothingToRead() {
        Check.due(0, new FormFields().read(-1));
        Check.due(0, Forms.kinds().read(-1));
        Check.due(-1, Check.read(new FormFields(), "\n"));
        Check.due(-1, Check.read(new FormFields(), "1"));
        Check.due(-1, Check.read(Forms.kinds(), "\n"));
        Check.due(-2, Check.read(Forms.kinds(), "1=\n\n"));
    }

    // "and are gone"; "(the bytes are gone)"
    private static void bytesAreGone() {
        FormFields x = Forms.kinds();
        for (String bytes : new String[] {"1=a\n", "1=a\n9", "9", "", "9=\n1=a\n"}) {
            Check.read(x, bytes);
            Check.due(0, x.read(-1));
            Check.due(1, x.read('x'));
            Check.due(-1, x.read(-1));
            Check.due(1, x.read('x'));
            x.read(-1);
        }
    }

    // "how many lines there were"
    private static void howManyLines() {
        StringBuilder lines = new StringBuilder();
        for (int count = 1; count <= 30; count++) {
            lines.append(count % 2 == 0 ? "1=\n" : "1=a\n");
            Check.due(count, Check.read(Forms.kinds(), lines.toString()));
        }
    }

    // "or -1 less the first line (from 0 on) that is no good"
    private static void firstLineThatIsNoGood() {
        for (int line = 0; line < 20; line++) {
            String good = "1=a\n".repeat(line);
            Check.due(-1 - line, Check.read(Forms.kinds(), good + "9=\n"));
            Check.due(-1 - line, Check.read(Forms.kinds(), good + "9=\n1=a\n8=\n"));
            Check.due(-1 - line, Check.read(Forms.kinds(), good + "9"));
            Check.due(-1 - line, Check.read(Forms.kinds(), good + "\n"));
        }
    }

    // "and 10"
    private static void lastLineWithoutItsEnd() {
        for (String line : new String[] {"1=a", "1=", "1", "=", "2=1", "5=7", "1=a\r"}) {
            Check.due(-1, Check.read(Forms.kinds(), line));
            Check.due(-2, Check.read(Forms.kinds(), "1=a\n" + line));
        }
        Check.due(1, Check.read(Forms.kinds(), "1=a\n"));
        Check.due(-1, Check.read(Forms.kinds(), "1=a\r\n"));
    }

    /** Texts 0, 10.20 and 10.21.0. */
    private static FormFields named() {
        FormFields x = new FormFields();
        x.field(-1, Check.TEXT, 0);
        x.field(-1, Check.GROUP, 10);
        x.field(1, Check.TEXT, 20);
        x.field(1, Check.GROUP, 21);
        x.field(3, Check.TEXT, 0);
        return x;
    }

    // "(FULL NAMES .. just as write() writes them)"; "no FULL NAME of a MASTER"
    private static void namesAsWritten() {
        for (String name : new String[] {"0", "10.20", "10.21.0"}) {
            Check.due(1, Check.read(named(), name + "=a\n"));
        }
        for (String name : new String[] {"", "1", "00", "-0", "+0", " 0", "0 ", "0.", ".0", "010.20", "10.020", "10.2",
            "10.200", "10..20", "10.20.", ".10.20", "10,20", "20.10", "10.20.0", "10.21.00", "1020", "10", "10.21",
            "10.21.", "10.21.0.0", "21.0", "20"}) {
            Check.due(-1, Check.read(named(), name + "=a\n"));
            Check.due(-1, Check.read(named(), name + "=\n"));
            Check.due(-1, Check.read(named(), name + "\n"));
        }
        for (String line : new String[] {"0\n", "0a\n", "0:a\n", "0>a\n", "10.20\n"}) {
            Check.due(-1, Check.read(named(), line));
        }
    }

    private static void noNameOfAGroup() {
        for (String value : new String[] {"", "0", "a"}) {
            Check.due(-1, Check.read(Forms.kinds(), "0=" + value + "\n"));
        }
    }

    // "of a MASTER that is not LOCKED"
    private static void lockedIsNoGood() {
        String[] lines = {"", "1=a\n", "2=1\n", "3=50\n", "4=50\n", "5=1\n"};
        for (int kind = 1; kind <= 5; kind++) {
            FormFields x = Forms.kinds();
            x.option(3, 50);
            x.option(4, 50);
            x.lock(kind, true);
            String before = Check.data(x);
            Check.due(-1, Check.read(x, lines[kind]));
            Check.due(-2, Check.read(x, lines[kind % 5 + 1] + lines[kind]));
            Check.due(before, Check.data(x));
            Check.due(1, Check.read(x, lines[kind % 5 + 1]));
            x.lock(kind, false);
            Check.due(1, Check.read(x, lines[kind]));
        }
    }

    // "(also of one that is FLAT)"
    private static void flatIsGood() {
        FormFields x = Forms.rich();
        x.read(-1);
        Check.due(1, Check.read(x, "10=new\n"));
        Check.due("new", Check.shown(x, Forms.FLAT));
        Check.due('q', x.page(1, 0));
        x.flatten(Forms.FLAT_AGAIN);
        Check.due(1, Check.read(x, "10=\n"));
        Check.due("", Check.shown(x, Forms.FLAT));
    }

    private static void reads(int due, Supplier<FormFields> made, String line) {
        FormFields x = made.get();
        String before = Check.data(x);
        Check.due(due, Check.read(x, line));
        Check.due(due == 1 ? line : before, Check.data(x));
    }

    // "a VALUE that value() could tell it now": of TEXT up to 30 SIGNS 32 .. 126
    private static void textsRead() {
        Supplier<FormFields> text = () -> Forms.typed(Check.TEXT, "old");
        for (String signs : new String[] {"", " ", "~", "=", "==", "1=2", THIRTY.substring(1), THIRTY}) {
            reads(1, text, "1=" + signs + "\n");
        }
        for (String signs : new String[] {THIRTY + "4", THIRTY + THIRTY, "\u001f", "\u007f", "a\u001f", "\u0000", "\u00ff",
            "\u00a0", "\r", "a\u007fb"}) {
            reads(-1, text, "1=" + signs + "\n");
        }
    }

    // ".. as many as CELLS"
    private static void cellsRead() {
        for (int cells = 1; cells <= 30; cells++) {
            int most = cells;
            Supplier<FormFields> text = () -> {
                FormFields x = Forms.one(Check.TEXT);
                x.set(0, 1, most);
                Check.type(x, 0, THIRTY.substring(30 - most));
                return x;
            };
            reads(1, text, "1=" + THIRTY.substring(0, cells) + "\n");
            reads(1, text, "1=" + THIRTY.substring(0, cells - 1) + "\n");
            reads(-1, text, "1=" + THIRTY.substring(0, cells) + "4\n");
        }
    }

    // of NUMBER up to 14 SIGNS 48 .. 57, 45, 46, with an AMOUNT or without
    private static void numbersRead() {
        Supplier<FormFields> number = () -> Forms.typed(Check.NUMBER, "5");
        for (String signs : new String[] {"", "0", "9", "-", ".", "007", "5.", FOURTEEN.substring(1), FOURTEEN}) {
            reads(1, number, "1=" + signs + "\n");
        }
        for (String signs : new String[] {FOURTEEN + "1", "/", ":", ",", "1,0", " 1", "1 ", "=", "a", "+1", "1e5"}) {
            reads(-1, number, "1=" + signs + "\n");
        }
    }

    // of a BOX 48 or 49
    private static void boxesRead() {
        for (int now = 0; now <= 1; now++) {
            int was = now;
            Supplier<FormFields> box = () -> {
                FormFields x = Forms.one(Check.BOX);
                x.value(0, was);
                return x;
            };
            reads(1, box, "1=0\n");
            reads(1, box, "1=1\n");
            for (String value : new String[] {"", "/", "2", "00", "01", "10", "11", "X", " 0", "-1", "\u0000", "\u0001"}) {
                reads(-1, box, "1=" + value + "\n");
            }
        }
    }

    private static FormFields options(int kind, int... codes) {
        FormFields x = Forms.one(kind);
        for (int code : codes) {
            x.option(0, code);
        }
        return x;
    }

    // "(.. CODES just as write() writes them)"
    private static void codesRead() {
        for (int kind : new int[] {Check.RADIO, Check.CHOICE}) {
            Supplier<FormFields> made = () -> options(kind, 0, 10, 99999, 5);
            for (String code : new String[] {"0", "10", "99999", "5"}) {
                reads(1, made, "1=" + code + "\n");
            }
            for (String code : new String[] {"1", "2", "3", "00", "05", "010", "010", "099999", "999990", "9999", "100000",
                "-5", "+5", " 5", "5 ", "5.", "5.0", "5=", "=5", "50", "4294967301", "4294967296", "18446744073709551621",
                "00000000000000000005", "a", "/", ":", "-1"}) {
                reads(-1, made, "1=" + code + "\n");
            }
            reads(-1, () -> Forms.one(kind), "1=0\n");
            Supplier<FormFields> twelve = () -> options(kind, 1, 2, 3, 4, 5, 6, 7, 8, 9, 10, 11, 12);
            reads(1, twelve, "1=1\n");
            reads(1, twelve, "1=12\n");
            reads(-1, twelve, "1=13\n");
            reads(-1, twelve, "1=0\n");
            reads(-1, twelve, "1=1/\n");
            reads(-1, twelve, "1=0:\n");
            reads(-1, twelve, "1=:\n");
        }
    }

    // "none; of a RADIO only when it may be OFF, or has none"
    private static void noneRead() {
        reads(1, () -> options(Check.CHOICE, 5), "1=\n");
        reads(1, () -> chosen(Check.CHOICE, 0), "1=\n");
        reads(1, () -> options(Check.RADIO, 5), "1=\n");
        reads(1, () -> Forms.one(Check.RADIO), "1=\n");
        reads(-1, () -> chosen(Check.RADIO, 0), "1=\n");
        reads(1, () -> chosen(Check.RADIO, 1), "1=\n");
    }

    /** Of options 5 and 6 the first is chosen. */
    private static FormFields chosen(int kind, int off) {
        FormFields x = options(kind, 5, 6);
        x.value(0, 0);
        if (kind == Check.RADIO) {
            x.set(0, 2, off);
        }
        return x;
    }

    // "all VALUES are as they tell, one line behind the other"
    private static void oneLineBehindTheOther() {
        FormFields x = Forms.kinds();
        Check.due(5, Check.read(x, "1=a\n2=1\n1=b\n2=0\n1=\n"));
        Check.due("1=\n2=0\n3=\n4=\n5=\n", Check.data(x));
        Check.due(3, Check.read(x, "1=\n1=b\n5=-\n"));
        Check.due("1=b\n2=0\n3=\n4=\n5=-\n", Check.data(x));
    }

    // "that value() could tell it now, before any of these lines is taken"
    private static void beforeAnyLineIsTaken() {
        FormFields x = options(Check.RADIO, 5, 6);
        Check.due(2, Check.read(x, "1=5\n1=\n"));
        Check.due("1=\n", Check.data(x));
        Check.due(3, Check.read(x, "1=5\n1=\n1=6\n"));
        Check.due("1=6\n", Check.data(x));
        Check.due(-1, Check.read(x, "1=\n1=5\n"));
        Check.due(-2, Check.read(x, "1=5\n1=\n"));
        Check.due("1=6\n", Check.data(x));
        FormFields y = Forms.typed(Check.TEXT, THIRTY);
        Check.due(2, Check.read(y, "1=" + THIRTY + "\n1=" + THIRTY.substring(1) + "4\n"));
        Check.due("1=" + THIRTY.substring(1) + "4\n", Check.data(y));
    }

    // "then no VALUE changes"
    private static void noValueChanges() {
        Supplier<FormFields> read = () -> {
            FormFields x = Forms.rich();
            x.read(-1);
            return x;
        };
        for (String bad : new String[] {"9=y\n", "x", "\n", "3=2\n", "4=\n", "5=1\n", "1.2=abcd\n", "8=123456789012345\n"}) {
            Probe.alike(read, () -> {
                FormFields x = read.get();
                Check.due(-6, Check.read(x, "1.2=x\n3=0\n4=7\n5=100\n1.6=2\n" + bad + "7=4\n"));
                return x;
            });
        }
    }

    private static void valuesOfAllOfAFullName() {
        FormFields x = Forms.rich();
        x.read(-1);
        Check.due(1, Check.read(x, "1.2=x\n"));
        Check.due("x", Check.shown(x, Forms.CELLED));
        Check.due("x", Check.shown(x, Forms.CELLED_AGAIN));
    }

    private static void writtenAndReadBack() {
        FormFields x = Forms.rich();
        x.read(-1);
        x.lock(Forms.LOCKED, false);
        String data = Check.data(x);
        x.value(Forms.CELLED, -1);
        x.value(Forms.BOX, 0);
        x.value(Forms.RADIO, 0);
        x.value(Forms.CHOICE, -1);
        x.value(Forms.RESULT, -1);
        x.value(Forms.FULL_NUMBER, -1);
        x.value(Forms.FLAT_AGAIN, -1);
        Check.due(9, Check.read(x, data));
        Check.due(data, Check.data(x));
    }

    // "IllegalArgumentException: a GROUP"; "NoSuchElementException"
    private static void lockOfNoGroup() {
        Probe.allRefused(Check.ARGUMENT, Forms::rich,
                x -> x.lock(Forms.GROUP, true), x -> x.lock(Forms.GROUP, false));
        for (int field : NO_FIELDS) {
            Probe.allRefused(Check.NO_SUCH, Forms::rich, x -> x.lock(field, true), x -> x.lock(field, false));
        }
    }

    // "A field is LOCKED, or not: what it was (1, 0)"
    private static void lockedWas() {
        for (int kind = 1; kind <= 5; kind++) {
            FormFields x = Forms.kinds();
            Check.due(0, x.lock(kind, false));
            Check.due(0, x.lock(kind, true));
            Check.due(1, x.lock(kind, true));
            Check.due(1, x.lock(kind, false));
            Check.due(0, x.lock(kind, false));
            for (int other = 1; other <= 5; other++) {
                Check.due(0, x.lock(other, true));
            }
        }
    }

    private static void lockOfTheMaster() {
        FormFields x = Forms.rich();
        Check.due(0, x.lock(Forms.FLAT, true));
        Check.due(1, x.lock(Forms.FLAT_AGAIN, true));
        Check.refused(Check.STATE, () -> x.value(Forms.FLAT_AGAIN, -1));
        Check.due(1, x.lock(Forms.FLAT_AGAIN, false));
        Check.due(0, x.value(Forms.FLAT_AGAIN, -1));
    }
}
