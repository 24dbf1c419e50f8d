import java.util.function.Function;
import java.util.function.Supplier;

/** All that can be learnt of an object: two objects that answer alike here have had the same changes. */
final class Probe {
    private interface Part {
        void look(Probe probe);
    }

    private static final Part[] PARTS = {
        Probe::rows, Probe::reading, probe -> probe.looks(0), probe -> probe.looks(1), Probe::settings,
        Probe::formulas, Probe::values, Probe::options, Probe::bounds, probe -> probe.page(0), probe -> probe.page(1),
        probe -> probe.page(2), probe -> probe.page(3), probe -> probe.page(4),
    };
    private static final String[] AMOUNTS = {"-1.501", "-1.5", "2", "2.001"};

    private final StringBuilder told = new StringBuilder();
    private final FormFields x;

    private Probe(FormFields x) {
        this.x = x;
    }

    /**
     * The call throws this, and then the object answers as one that never had the call. Looking
     * changes an object, too, so each part of the looking gets two new ones.
     */
    static void refused(String want, Supplier<FormFields> made, Function<FormFields, Object> call) {
        for (Part part : PARTS) {
            FormFields touched = made.get();
            FormFields untouched = made.get();
            Check.refused(want, () -> {
                call.apply(touched);
                return 0;
            });
            Check.due(seen(part, untouched), seen(part, touched));
        }
    }

    /** As refused(), for several calls that throw the same. */
    @SafeVarargs
    static void allRefused(String want, Supplier<FormFields> made, Function<FormFields, Object>... calls) {
        for (Function<FormFields, Object> call : calls) {
            refused(want, made, call);
        }
    }

    /** Two makings that are to lead to the same object. */
    static void alike(Supplier<FormFields> one, Supplier<FormFields> other) {
        for (Part part : PARTS) {
            Check.due(seen(part, one.get()), seen(part, other.get()));
        }
    }

    private static String seen(Part part, FormFields x) {
        Probe probe = new Probe(x);
        part.look(probe);
        return probe.told.toString();
    }

    /** Not for rows(), reading() and page(): the call behind the last field is refused, and could change them. */
    private int fields() {
        int count = 0;
        while (isField(count)) {
            count++;
        }
        told.append(count).append(" fields");
        return count;
    }

    private boolean isField(int field) {
        return Check.outcome(() -> x.shown(field, 0)).startsWith("answers");
    }

    /** Whether it answered. */
    private boolean tell(Check.Call call) {
        String outcome = Check.outcome(call);
        boolean answered = outcome.startsWith("answers ");
        told.append(' ').append(answered ? outcome.substring(8) : outcome);
        return answered;
    }

    /** What calls that made or worked out something have left, but for the page. */
    private void rows() {
        tellAll("\nat ", 0, x::at);
        tellAll("\nfailed ", -1, x::failed);
        for (int i = 0; tellOne("\nmark ", i, one -> x.mark(one, 0)); i++) {
            int one = i;
            for (int what = 1; what <= 3; what++) {
                int part = what;
                tell(() -> x.mark(one, part));
            }
        }
        told.append("\nnext field");
        tell(() -> x.field(-1, Check.TEXT, 998));
    }

    /** One part of its marks at a time: all of 400 marks would be more than an object's 512 calls. */
    private void page(int what) {
        tellAll("\npage ", 0, i -> x.page(i, what));
    }

    private void tellAll(String name, int from, Function<Integer, Integer> call) {
        int i = from;
        while (tellOne(name, i, call)) {
            i++;
        }
    }

    private boolean tellOne(String name, int i, Function<Integer, Integer> call) {
        told.append(name).append(i);
        return tell(() -> call.apply(i));
    }

    /** Every other field, for the same reason. */
    private void looks(int from) {
        int count = fields();
        for (int i = from; i < count; i += 2) {
            int one = i;
            told.append("\nlook ").append(i).append(' ').append(Check.shown(x, i));
            tell(() -> x.size(one));
            tell(() -> x.validate(one));
        }
    }

    /** Setting each to the least it may be answers what it was. */
    private void settings() {
        int count = fields();
        for (int i = 0; i < count; i++) {
            int one = i;
            told.append("\nsettings ").append(i);
            tell(() -> x.lock(one, false));
            tell(() -> x.fails(one, false));
            for (int what = 0; what < 8; what++) {
                int setting = what;
                tell(() -> x.set(one, setting, 0));
            }
        }
    }

    private void formulas() {
        int count = fields();
        told.append("\ncalculated");
        tell(x::calculate);
        tellAll("\nfailed ", -1, x::failed);
        for (int i = 0; i < count; i++) {
            int one = i;
            told.append("\nformula ").append(i);
            if (tell(() -> x.formula(one, -1, 0, 0))) {
                told.append(' ').append(Check.shown(x, i));
            }
        }
    }

    private void values() {
        int count = fields();
        for (int i = 0; i < count; i++) {
            int one = i;
            told.append("\nvalue ").append(i);
            tell(() -> x.value(one, '1'));
            tell(() -> x.value(one, -1));
            tell(() -> x.flatten(one));
        }
        told.append("\ndata ").append(Check.data(x));
    }

    private void options() {
        int count = fields();
        for (int i = 0; i < count && i < 20; i++) {
            int one = i;
            told.append("\noptions ").append(i);
            for (int option = 0; option < 13 && tellOne(" ", option, c -> x.value(one, c)); option++) {
                told.append(' ').append(Check.shown(x, i));
            }
            tell(() -> x.option(one, 4321));
        }
    }

    /** The amounts on both sides of the bounds that the forms of these tests have. */
    private void bounds() {
        int count = fields();
        for (int i = 0; i < count && i < 10; i++) {
            int one = i;
            told.append("\nbounds ").append(i);
            tell(() -> x.lock(one, false));
            for (String amount : AMOUNTS) {
                if (tell(() -> x.value(one, -1))) {
                    for (char c : amount.toCharArray()) {
                        tell(() -> x.value(one, c));
                    }
                }
                tell(() -> x.validate(one));
            }
        }
    }

    private void reading() {
        told.append("\nto read");
        tell(() -> x.read(10));
        tell(() -> x.read(-1));
        told.append("\ndata ").append(Check.data(x));
    }
}
