import com.sun.management.ThreadMXBean;
import java.lang.management.ManagementFactory;

/**
 * The rows are made with the object and with each field, and used again: a call that is no field()
 * and throws nothing makes no object (rule 12 of the language).
 */
public final class RoomTest {
    private static final int ROUNDS = 5;
    /** In bytes, far below the room that all runs have together. */
    private static final long MOST_OF_A_FORM = 200_000;
    /** Less than an object for every fifth call; not 0, since the machine may make some of its own. */
    private static final long MOST_OF_CALLS = 500;

    private static final ThreadMXBean THREADS = (ThreadMXBean) ManagementFactory.getThreadMXBean();

    public static void main(String[] args) {
        if (THREADS.isThreadAllocatedMemorySupported()) {
            warmUp();
            long before = made();
            FormFields x = fullForm();
            below(MOST_OF_A_FORM, made() - before);
            before = made();
            calls(x);
            below(MOST_OF_CALLS, made() - before);
        }
        Check.end();
    }

    private static void below(long most, long made) {
        if (made >= most) {
            Check.tell(made + " bytes were made, due are less than " + most);
        }
    }

    private static long made() {
        return THREADS.getThreadAllocatedBytes(Thread.currentThread().getId());
    }

    /** The machine makes objects of its own when code runs first. */
    private static void warmUp() {
        for (int i = 0; i < 3; i++) {
            made();
            calls(fullForm());
        }
    }

    /** 40 fields: GROUPS in a chain, TEXTS in the last, a NUMBER there and one that sums the first GROUP. */
    private static FormFields fullForm() {
        FormFields x = new FormFields();
        for (int i = 0; i < 16; i++) {
            x.field(i - 1, Check.GROUP, 999);
        }
        for (int i = 16; i < 36; i++) {
            x.field(15, Check.TEXT, 100 + i);
        }
        x.field(15, Check.NUMBER, 900);
        x.field(-1, Check.NUMBER, 901);
        x.field(-1, Check.BOX, 902);
        x.field(-1, Check.CHOICE, 903);
        return x;
    }

    private static void calls(FormFields x) {
        for (int i = 0; i < ROUNDS; i++) {
            x.option(39, i);
            x.formula(37, 6, 0, 0);
            x.value(16, 'a');
            x.value(36, '1');
            x.value(38, i % 2);
            x.value(39, i % 2 - 1);
            x.set(16, 5, i);
            x.bounds(36, -i, i);
            x.calculate();
            x.failed(-1);
            x.fails(36, false);
            x.shown(37, 0);
            x.size(16);
            x.validate(36);
            x.appearance(16);
            x.mark(0, 0);
            x.flatten(17 + i);
            x.page(i, 4);
            x.write();
            x.at(0);
            x.lock(16, false);
            readOne(x);
        }
    }

    private static void readOne(FormFields x) {
        x.read('9');
        x.read('0');
        x.read('2');
        x.read('=');
        x.read('1');
        x.read('\n');
        Check.due(1, x.read(-1));
    }
}
