import java.util.Random;

/** Long runs of calls, made by a fixed seed, on the class and on the model: both answer alike. */
public final class LongRunsTest {
    private static final int RUNS = 3000;
    private static final int CALLS = 512;

    private final FormFields form = new FormFields();
    private final Model model = new Model();
    private final Random random;
    private final int run;
    private int fields = 0;
    private int calls = 0;
    private boolean alike = true;
    private String typed = "";

    private LongRunsTest(int run) {
        this.run = run;
        random = new Random(run);
    }

    public static void main(String[] args) {
        for (int run = 0; run < RUNS; run++) {
            LongRunsTest one = new LongRunsTest(run);
            one.start();
            while (one.calls < CALLS && one.alike) {
                one.step();
            }
        }
        Check.end();
    }

    private int both(String call, Check.Call mine, Check.Call due) {
        calls++;
        if (calls > CALLS || !alike) {
            return -1;
        }
        String got = Check.outcome(mine);
        String want = Check.outcome(due);
        if (!got.equals(want)) {
            alike = false;
            Check.tell("run " + run + " call " + calls + " " + call + " " + got + ", the model " + want);
        }
        return want.startsWith("answers ") ? Integer.parseInt(want.substring(8)) : -1;
    }

    /** A form of about the size that the run is to have, before calls of all sorts. */
    private void start() {
        int most = 1 + random.nextInt(random.nextInt(10) == 0 ? 45 : 12);
        for (int i = 0; i < most; i++) {
            makeField();
        }
    }

    private int number(int most) {
        return random.nextInt(most);
    }

    private int some(int... of) {
        return of[number(of.length)];
    }

    private int any() {
        return number(40) == 0 ? some(-1, fields, 40, Integer.MIN_VALUE) : number(Math.max(1, fields));
    }

    private void makeField() {
        int parent = number(3) == 0 ? -1 : any();
        int kind = number(60) == 0 ? some(-1, 6) : some(0, 0, 1, 2, 3, 4, 5, 5, 5);
        int name = number(60) == 0 ? some(-1, 1000) : some(0, 1, 2, 10, 999);
        int made = both("field(" + parent + "," + kind + "," + name + ")",
                () -> form.field(parent, kind, name), () -> model.field(parent, kind, name));
        fields = Math.max(fields, made + 1);
    }

    private void step() {
        switch (number(24)) {
            case 0: if (number(6) == 0) { makeField(); } break;
            case 1: case 2: case 3: tellValue(); break;
            case 4: case 5: typeNumber(); break;
            case 6: makeOption(); break;
            case 7: case 8: setSetting(); break;
            case 9: setBounds(); break;
            case 10: case 11: setFormula(); break;
            case 12: case 13: case 14: calculateAll(); break;
            case 15: setFails(); break;
            case 16: case 17: look(); break;
            case 18: makeMarks(); break;
            case 19: if (number(3) == 0) { flattenOne(); } break;
            case 20: writeAll(); break;
            case 21: case 22: readSome(); break;
            default: if (number(3) == 0) { setLock(); } break;
        }
    }

    private void tellValue() {
        int field = any();
        int c = some(-1, 0, 1, number(4), 32 + number(95), 48 + number(10), 45, 46, 31, 127, -2);
        tell(field, c);
    }

    private void tell(int field, int c) {
        both("value(" + field + "," + c + ")", () -> form.value(field, c), () -> model.value(field, c));
    }

    private void typeNumber() {
        int field = any();
        String[] texts = {"1", "-2.5", "999999999.999", "0.001", "1000000", "-0.049", "31622.777", "5.", "1234.565",
            "-999999999.995", "12", "0"};
        String text = number(3) == 0 ? texts[number(texts.length)] : number(200000) - 100000 + "." + number(1000);
        tell(field, -1);
        for (char c : text.toCharArray()) {
            tell(field, c);
        }
    }

    private void makeOption() {
        int field = any();
        int code = some(0, 1, 7, 10, 99999, number(100), -1, 100000);
        both("option(" + field + "," + code + ")", () -> form.option(field, code), () -> model.option(field, code));
    }

    private void setSetting() {
        int field = any();
        int what = number(30) == 0 ? some(-1, 8) : number(8);
        int v = what >= 5 && what <= 6 ? some(number(50), number(200), number(1000), 100000, 100001, -1, 0)
                : some(0, 1, 2, 3, number(33), -1);
        both("set(" + field + "," + what + "," + v + ")",
                () -> form.set(field, what, v), () -> model.set(field, what, v));
    }

    private void setBounds() {
        int field = any();
        long far = 999999999999L + number(2);
        long least = number(4) == 0 ? -far : number(200000) - 150000;
        long most = number(4) == 0 ? far : number(200000) - 50000;
        both("bounds(" + field + "," + least + "," + most + ")", () -> {
            form.bounds(field, least, most);
            return 0;
        }, () -> model.bounds(field, least, most));
    }

    private void setFormula() {
        int field = any();
        int op = number(30) == 0 ? some(-2, 8) : number(9) - 1;
        int a = op == 7 ? some(number(100000), -number(2000000000), 0) : any();
        int b = any();
        both("formula(" + field + "," + op + "," + a + "," + b + ")",
                () -> form.formula(field, op, a, b), () -> model.formula(field, op, a, b));
    }

    private void calculateAll() {
        both("calculate()", form::calculate, model::calculate);
        int count = both("failed(-1)", () -> form.failed(-1), () -> model.failed(-1));
        for (int i = 0; i <= count; i++) {
            int one = i;
            both("failed(" + i + ")", () -> form.failed(one), () -> model.failed(one));
        }
    }

    private void setFails() {
        int field = any();
        boolean on = number(3) == 0;
        both("fails(" + field + "," + on + ")", () -> form.fails(field, on), () -> model.fails(field, on));
    }

    private void look() {
        int field = any();
        both("validate(" + field + ")", () -> form.validate(field), () -> model.validate(field));
        both("size(" + field + ")", () -> form.size(field), () -> model.size(field));
        int sign = 0;
        for (int i = -1; i < 31 && (i <= 0 || sign >= 0); i++) {
            int one = i;
            sign = both("shown(" + field + "," + i + ")", () -> form.shown(field, one), () -> model.shown(field, one));
        }
    }

    private void makeMarks() {
        int field = any();
        both("appearance(" + field + ")", () -> form.appearance(field), () -> model.appearance(field));
        for (int k = 0; k < 8; k++) {
            int i = number(6) - 1;
            int what = number(6) - 1;
            both("mark(" + i + "," + what + ")", () -> form.mark(i, what), () -> model.mark(i, what));
        }
    }

    private void flattenOne() {
        int field = any();
        int count = both("flatten(" + field + ")", () -> form.flatten(field), () -> model.flatten(field));
        for (int k = 0; k < 8; k++) {
            int i = Math.max(0, count) - number(6);
            int what = number(7) - 1;
            both("page(" + i + "," + what + ")", () -> form.page(i, what), () -> model.page(i, what));
        }
    }

    private void writeAll() {
        int count = both("write()", form::write, model::write);
        typed = "";
        StringBuilder bytes = new StringBuilder();
        for (int i = 0; i < count && calls < CALLS / 2; i++) {
            int one = i;
            bytes.append((char) Math.max(0, both("at(" + i + ")", () -> form.at(one), () -> model.at(one))));
        }
        both("at(" + count + ")", () -> form.at(count), () -> model.at(count));
        typed = bytes.toString();
    }

    private void readSome() {
        if (typed.isEmpty() && number(4) != 0) {
            both("write()", form::write, model::write);
            typed = model.latestData();
        }
        String[] lines = typed.split("\n");
        StringBuilder bytes = new StringBuilder();
        int count = 1 + number(3);
        for (int i = 0; i < count; i++) {
            String line = lines[number(lines.length)];
            int equals = line.indexOf('=') + 1;
            String[] values = {"", "0", "1", "7", "10", "99999", "-5.5", "ab=c", "12345678901234", "00", "\u007f"};
            bytes.append(number(3) == 0 ? line : line.substring(0, equals) + values[number(values.length)]);
            bytes.append(number(30) == 0 ? "" : "\n");
        }
        for (char c : bytes.toString().toCharArray()) {
            both("read(" + (int) c + ")", () -> form.read(c), () -> model.read(c));
        }
        both("read(-1)", () -> form.read(-1), () -> model.read(-1));
    }

    private void setLock() {
        int field = any();
        boolean on = number(3) == 0;
        both("lock(" + field + "," + on + ")", () -> form.lock(field, on), () -> model.lock(field, on));
    }
}
