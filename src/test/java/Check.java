/** Counts the calls whose answer is not the one that is due, and tells where they stand. */
final class Check {
    interface Call {
        long answer();
    }

    static final int GROUP = 0;
    static final int TEXT = 1;
    static final int BOX = 2;
    static final int RADIO = 3;
    static final int CHOICE = 4;
    static final int NUMBER = 5;

    static final String NO_SUCH = "NoSuchElementException";
    static final String ARGUMENT = "IllegalArgumentException";
    static final String STATE = "IllegalStateException";
    static final String UNSUPPORTED = "UnsupportedOperationException";
    static final String INDEX = "IndexOutOfBoundsException";
    static final String ARRAY_INDEX = "ArrayIndexOutOfBoundsException";

    private static int wrong = 0;

    private Check() {
    }

    static void due(long want, long got) {
        if (got != want) {
            tell("answered " + got + ", due is " + want);
        }
    }

    static void due(String want, String got) {
        if (!got.equals(want)) {
            tell("answered \"" + got + "\", due is \"" + want + "\"");
        }
    }

    /** Exactly the exception, no class below or above it. */
    static void refused(String want, Call call) {
        String got = outcome(call);
        if (!got.equals("throws " + want)) {
            tell("it " + got + ", due is that it throws " + want);
        }
    }

    static String outcome(Call call) {
        try {
            return "answers " + call.answer();
        } catch (RuntimeException e) {
            return "throws " + e.getClass().getSimpleName();
        }
    }

    static void tell(String what) {
        wrong++;
        StringBuilder where = new StringBuilder();
        for (StackTraceElement one : new Throwable().getStackTrace()) {
            if (!one.getClassName().equals("Check")) {
                where.append(one.getFileName()).append(':').append(one.getLineNumber()).append(' ');
            }
        }
        System.out.println(where + what);
    }

    static void end() {
        System.out.println(wrong == 0 ? "all answers are as due" : wrong + " answers are not as due");
        if (wrong != 0) {
            System.exit(1);
        }
    }

    /** Puts signs behind those of a field. */
    static void type(FormFields x, int field, String signs) {
        for (char c : signs.toCharArray()) {
            x.value(field, c);
        }
    }

    /** Puts signs in place of those of a field. */
    static void retype(FormFields x, int field, String signs) {
        x.value(field, -1);
        type(x, field, signs);
    }

    static String shown(FormFields x, int field) {
        StringBuilder signs = new StringBuilder();
        int sign = x.shown(field, 0);
        for (int i = 1; sign != -1; i++) {
            signs.append((char) sign);
            sign = x.shown(field, i);
        }
        return signs.toString();
    }

    static String data(FormFields x) {
        StringBuilder bytes = new StringBuilder();
        int count = x.write();
        for (int i = 0; i < count; i++) {
            bytes.append((char) x.at(i));
        }
        return bytes.toString();
    }

    static int read(FormFields x, String bytes) {
        for (char c : bytes.toCharArray()) {
            x.read(c);
        }
        return x.read(-1);
    }
}
