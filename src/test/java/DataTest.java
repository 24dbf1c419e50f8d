/** Promises 18 to 21: write, at, read, lock. */
public final class DataTest {
    public static void main(String[] args) {
        written();
        bytes();
        readBack();
        firstField();
        badLines();
        badValues();
        nothingOfABadReading();
        lineBehindLine();
        askedBeforeAnyLine();
        lockedAndFlat();
        bytesToRead();
        locks();
        Check.end();
    }

    /** 1: group; 1.0: text; 2: box; 3: radio of 0, 10, 7; 4: choice of 99999; 5: number. */
    private static FormFields form() {
        FormFields x = new FormFields();
        x.field(-1, Check.GROUP, 1);
        x.field(0, Check.TEXT, 0);
        x.field(-1, Check.BOX, 2);
        x.field(-1, Check.RADIO, 3);
        x.field(-1, Check.CHOICE, 4);
        x.field(-1, Check.NUMBER, 5);
        x.option(3, 0);
        x.option(3, 10);
        x.option(3, 7);
        x.option(4, 99999);
        return x;
    }

    private static void written() {
        FormFields x = form();
        Check.due(18, x.write());
        Check.due("1.0=\n2=0\n3=\n4=\n5=\n", Check.data(x));
    }

    private static void bytes() {
        FormFields x = form();
        Check.refused(Check.ARRAY_INDEX, () -> x.at(0));
        int count = x.write();
        Check.due(49, x.at(0));
        Check.due(10, x.at(count - 1));
        x.value(2, 1);
        Check.type(x, 1, "=a b~");
        Check.due(48, x.at(7));
        Check.refused(Check.ARRAY_INDEX, () -> x.at(count));
        Check.refused(Check.ARRAY_INDEX, () -> x.at(-1));
        Check.refused(Check.ARRAY_INDEX, () -> x.at(Integer.MAX_VALUE));
        x.value(3, 1);
        x.value(4, 0);
        Check.type(x, 5, "-5.");
        Check.due("1.0==a b~\n2=1\n3=10\n4=99999\n5=-5.\n", Check.data(x));
        x.value(1, -1);
        Check.due("1.0=\n2=1\n3=10\n4=99999\n5=-5.\n", Check.data(x));
        Check.refused(Check.ARRAY_INDEX, () -> x.at(36));
    }

    private static void readBack() {
        FormFields x = form();
        String all = "1.0==a b~\n2=1\n3=10\n4=99999\n5=-5.\n";
        Check.due(5, Check.read(x, all));
        Check.due(all, Check.data(x));
        Check.due("10", Check.shown(x, 3));
        Check.due(0, x.read(-1));
        Check.due(2, Check.read(x, "4=\n1.0=\n"));
        Check.due("1.0=\n2=1\n3=10\n4=\n5=-5.\n", Check.data(x));
        x.field(-1, Check.GROUP, 1);
        x.field(6, Check.TEXT, 0);
        Check.due(1, Check.read(x, "1.0=twice\n"));
        Check.due("twice", Check.shown(x, 7));
        Check.due("twice", Check.shown(x, 1));
    }

    private static void firstField() {
        FormFields x = new FormFields();
        x.field(-1, Check.TEXT, 999);
        Check.due(1, Check.read(x, "999=first\n"));
        Check.due("999=first\n", Check.data(x));
    }

    private static void badLines() {
        String[] bad = {"\n", "5\n", "=\n", "=1\n", "1=\n", "0=\n", "1.0\n", "01.0=\n", "1.00=\n", "1.0.0=\n",
            ".1.0=\n", "1.=\n", "1,0=\n", " 2=1\n", "2 =1\n", "2=1", "2=", "2", "5=1\r\n", "02=1\n", "-2=1\n",
            "1..0=\n", "1.0.=\n", "2\n=1\n"};
        for (String line : bad) {
            FormFields x = form();
            Check.due(-1, Check.read(x, line));
            Check.due(-2, Check.read(x, "5=1\n" + line));
            Check.due(-3, Check.read(x, "5=1\n2=1\n" + line));
            Check.due("1.0=\n2=0\n3=\n4=\n5=\n", Check.data(x));
        }
    }

    private static void badValues() {
        String[] bad = {"2=\n", "2=2\n", "2=/\n", "2=01\n", "2=11\n", "3=1\n", "3=00\n", "3=07\n", "3=010\n",
            "3=-7\n", "3=7 \n", "3=77\n", "3=:\n", "3=1/\n", "3=/\n", "4=0\n", "4=099999\n", "4=999990\n",
            "4=9999\n", "4=4295067295\n", "4=99999999999\n", "5=a\n", "5=1,0\n", "5= 1\n", "5=123456789012345\n", "5==1\n",
            "1.0=\u001f\n", "1.0=\u007f\n", "1.0=\u00ff\n", "1.0=1234567890123456789012345678901\n"};
        for (String line : bad) {
            FormFields x = form();
            Check.due(-1, Check.read(x, line));
            Check.due("1.0=\n2=0\n3=\n4=\n5=\n", Check.data(x));
        }
        String[] good = {"2=0\n", "2=1\n", "3=0\n", "3=7\n", "3=10\n", "3=\n", "4=99999\n", "4=\n", "5=\n",
            "5=12345678901234\n", "5=-.-\n", "1.0= \n", "1.0=~=1\n", "1.0=123456789012345678901234567890\n"};
        for (String line : good) {
            FormFields x = form();
            Check.due(1, Check.read(x, line));
            Check.due(1, Check.data(x).contains(line) ? 1 : 0);
        }
    }

    private static void nothingOfABadReading() {
        FormFields x = form();
        Check.due(2, Check.read(x, "1.0=old\n5=1\n"));
        Check.due(-4, Check.read(x, "1.0=new\n5=2\n2=1\n9=1\n2=1\n8=1\n"));
        Check.due("1.0=old\n2=0\n3=\n4=\n5=1\n", Check.data(x));
        Check.due(0, x.read(-1));
        Check.due(1, x.read(65));
        Check.due(-1, x.read(-1));
        Check.due(1, x.read(65));
    }

    private static void lineBehindLine() {
        FormFields x = form();
        Check.due(4, Check.read(x, "5=1\n5=2\n2=1\n5=3\n"));
        Check.due("1.0=\n2=1\n3=\n4=\n5=3\n", Check.data(x));
        x.set(1, 1, 3);
        Check.due(-1, Check.read(x, "1.0=abcd\n"));
        Check.due(2, Check.read(x, "1.0=abc\n1.0=def\n"));
        Check.due("def", Check.shown(x, 1));
    }

    private static void askedBeforeAnyLine() {
        FormFields x = form();
        Check.due(3, Check.read(x, "3=7\n3=\n3=7\n"));
        Check.due("7", Check.shown(x, 3));
        Check.due(-1, Check.read(x, "3=\n"));
        Check.due(-2, Check.read(x, "3=10\n3=\n"));
        Check.due("7", Check.shown(x, 3));
        x.set(3, 2, 1);
        Check.due(2, Check.read(x, "3=10\n3=\n"));
        Check.due("", Check.shown(x, 3));
        x.set(3, 2, 0);
        Check.due(2, Check.read(x, "3=10\n3=\n"));
        Check.due("", Check.shown(x, 3));
    }

    private static void lockedAndFlat() {
        FormFields x = form();
        x.lock(2, true);
        Check.due(-2, Check.read(x, "5=1\n2=0\n"));
        Check.due("1.0=\n2=0\n3=\n4=\n5=\n", Check.data(x));
        x.lock(2, false);
        x.flatten(2);
        Check.due(2, Check.read(x, "5=1\n2=1\n"));
        Check.due("1.0=\n2=1\n3=\n4=\n5=1\n", Check.data(x));
    }

    private static void bytesToRead() {
        FormFields x = form();
        Check.refused(Check.ARGUMENT, () -> x.read(256));
        Check.refused(Check.ARGUMENT, () -> x.read(-2));
        Check.due(1, x.read(0));
        Check.due(2, x.read(255));
        Check.due(-1, x.read(-1));
        // Beyond the 512 calls that are promised: the only way to come to the limit.
        for (int i = 1; i <= 3000; i++) {
            Check.due(i, x.read("5=1\n".charAt((i - 1) % 4)));
        }
        Check.refused(Check.UNSUPPORTED, () -> x.read(10));
        Check.refused(Check.ARGUMENT, () -> x.read(256));
        Check.due(750, x.read(-1));
        Check.due(1, x.read(10));
    }

    private static void locks() {
        FormFields x = form();
        Check.refused(Check.ARGUMENT, () -> x.lock(0, true));
        Check.refused(Check.NO_SUCH, () -> x.lock(6, true));
        Check.refused(Check.NO_SUCH, () -> x.lock(-1, true));
        for (int field = 1; field <= 5; field++) {
            int one = field;
            Check.due(0, x.lock(field, false));
            Check.due(0, x.lock(field, true));
            Check.due(1, x.lock(field, true));
            Check.refused(Check.STATE, () -> x.value(one, one == 2 ? 1 : one == 3 ? 0 : -1));
            Check.due(1, x.lock(field, false));
            Check.due(0, x.lock(field, false));
        }
        x.field(-1, Check.NUMBER, 5);
        Check.due(0, x.lock(6, true));
        Check.due(1, x.lock(5, true));
        Check.refused(Check.STATE, () -> x.value(5, 48));
        Check.due(1, x.lock(5, false));
        Check.due(1, x.value(6, 48));
    }
}
