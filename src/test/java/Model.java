import java.math.BigDecimal;
import java.math.RoundingMode;
import java.util.ArrayList;
import java.util.Collections;
import java.util.HashMap;
import java.util.HashSet;
import java.util.List;
import java.util.Map;
import java.util.NoSuchElementException;
import java.util.Set;

/** The document once more, in the plainest words of the Java library, to compare long runs with. */
final class Model {
    private static final BigDecimal MOST = new BigDecimal("999999999.999");

    /** What all fields of one full name have together. */
    private static final class Shared {
        int master;
        String text = "";
        int chosen;
        List<Integer> codes = new ArrayList<>();
        int[] settings = {0, 0, 0, 3, 0};
        BigDecimal least = MOST.negate();
        BigDecimal most = MOST;
        int op = -1;
        int a;
        int b;
        boolean told;
        boolean locked;
    }

    private final List<String> names = new ArrayList<>();
    private final List<Integer> kinds = new ArrayList<>();
    private final List<Integer> parents = new ArrayList<>();
    private final List<int[]> boxes = new ArrayList<>();
    private final Set<Integer> flat = new HashSet<>();
    private final Map<String, Shared> shared = new HashMap<>();
    private final Map<String, Integer> kindOf = new HashMap<>();
    private List<Integer> failed = new ArrayList<>();
    private List<int[]> marks = new ArrayList<>();
    private final List<int[]> page = new ArrayList<>();
    private String data = "";
    private final StringBuilder input = new StringBuilder();

    private int kind(int field) {
        if (field < 0 || field >= names.size()) {
            throw new NoSuchElementException();
        }
        return kinds.get(field);
    }

    private Shared of(int field) {
        return shared.get(names.get(field));
    }

    private static void argument(boolean good) {
        if (!good) {
            throw new IllegalArgumentException();
        }
    }

    private static void state(boolean good) {
        if (!good) {
            throw new IllegalStateException();
        }
    }

    private static void room(boolean good) {
        if (!good) {
            throw new UnsupportedOperationException();
        }
    }

    int field(int parent, int kind, int name) {
        int above = parent == -1 ? 0 : kind(parent);
        argument(kind >= 0 && kind <= 5 && name >= 0 && name <= 999 && above == 0);
        String full = parent == -1 ? "" + name : names.get(parent) + "." + name;
        state(!kindOf.containsKey(full) || kindOf.get(full) == kind);
        room(names.size() < 40);
        kindOf.put(full, kind);
        if (!shared.containsKey(full)) {
            Shared one = new Shared();
            one.master = names.size();
            one.chosen = kind == 2 ? 0 : -1;
            shared.put(full, one);
        }
        names.add(full);
        kinds.add(kind);
        parents.add(parent);
        boxes.add(new int[] {800, 160, 0});
        return names.size() - 1;
    }

    private boolean fits(int field, String text) {
        Shared one = of(field);
        int most = kinds.get(field) == 5 ? 14 : one.settings[1] > 0 ? one.settings[1] : 30;
        return text.length() <= most;
    }

    private boolean tellable(int field, int c) {
        Shared one = of(field);
        switch (kinds.get(field)) {
            case 1: return c == -1 || c >= 32 && c <= 126;
            case 2: return c == 0 || c == 1;
            case 3: return c == -1 ? one.settings[2] == 1 || one.chosen == -1 : c >= 0 && c < one.codes.size();
            case 4: return c >= -1 && c < one.codes.size();
            case 5: return c == -1 || c >= 0 && "0123456789-.".indexOf(c) >= 0;
            default: return false;
        }
    }

    int value(int field, int c) {
        int kind = kind(field);
        Shared one = of(field);
        argument(tellable(field, c));
        state(!one.locked && !flat.contains(field));
        if (kind == 1 || kind == 5) {
            String text = c == -1 ? "" : one.text + (char) c;
            room(fits(field, text));
            one.text = text;
            return text.length();
        }
        one.chosen = c;
        return c;
    }

    int option(int field, int code) {
        int kind = kind(field);
        Shared one = of(field);
        argument((kind == 3 || kind == 4) && code >= 0 && code <= 99999 && !one.codes.contains(code));
        room(one.codes.size() < 12);
        one.codes.add(code);
        return one.codes.size() - 1;
    }

    int set(int field, int what, int v) {
        int kind = kind(field);
        argument(kind != 0 && what >= 0 && what <= 7 && v >= 0);
        Shared one = of(field);
        int[] of = {0, 1, 3, 5, 5, 0, 0, 0};
        int[] most = {1, 30, 1, 3, 1, 100000, 100000, 2};
        argument((of[what] == 0 || of[what] == kind) && v <= most[what]);
        argument(what != 1 || v == 0 || v >= one.text.length());
        int[] row = what >= 5 ? boxes.get(field) : one.settings;
        int was = row[what >= 5 ? what - 5 : what];
        row[what >= 5 ? what - 5 : what] = v;
        return was;
    }

    int bounds(int field, long least, long most) {
        int kind = kind(field);
        long far = 999999999999L;
        argument(kind == 5 && least >= -far && least <= far && most >= -far && most <= far && least <= most);
        of(field).least = BigDecimal.valueOf(least, 3);
        of(field).most = BigDecimal.valueOf(most, 3);
        return 0;
    }

    int formula(int field, int op, int a, int b) {
        int kind = kind(field);
        if (op >= 0 && op <= 5) {
            int left = kind(a);
            int right = kind(b);
            argument((left == 2 || left == 5) && (right == 2 || right == 5));
        }
        argument(op != 6 || kind(a) == 0);
        argument(kind == 5 && op >= -1 && op <= 7);
        Shared one = of(field);
        int was = one.op == -1 ? 0 : 1;
        one.op = op;
        one.a = a;
        one.b = b;
        return was;
    }

    private BigDecimal amount(int field) {
        Shared one = of(field);
        if (kinds.get(field) == 2) {
            return BigDecimal.valueOf(one.chosen);
        }
        if (one.text.isEmpty()) {
            return BigDecimal.ZERO;
        }
        return one.text.matches("-?[0-9]{1,9}(\\.[0-9]{1,3})?") ? new BigDecimal(one.text) : null;
    }

    private Set<Integer> needs(int master) {
        Shared one = of(master);
        Set<Integer> found = new HashSet<>();
        if (one.op >= 0 && one.op <= 5) {
            found.add(of(one.a).master);
            found.add(of(one.b).master);
        }
        for (int i = 0; one.op == 6 && i < names.size(); i++) {
            boolean inside = false;
            for (int up = parents.get(i); up != -1; up = parents.get(up)) {
                inside |= up == one.a;
            }
            if (inside && kinds.get(i) == 5) {
                found.add(of(i).master);
            }
        }
        return found;
    }

    private boolean reaches(int from, int to, Set<Integer> seen) {
        for (int next : needs(from)) {
            if (next == to || seen.add(next) && reaches(next, to, seen)) {
                return true;
            }
        }
        return false;
    }

    private BigDecimal result(int master) {
        Shared one = of(master);
        BigDecimal sum = BigDecimal.ZERO;
        for (int need : needs(master)) {
            if (amount(need) == null) {
                return null;
            }
            sum = sum.add(amount(need));
        }
        if (one.op == 6) {
            return sum;
        }
        if (one.op == 7) {
            return BigDecimal.valueOf(one.a, 3);
        }
        BigDecimal a = amount(one.a);
        BigDecimal b = amount(one.b);
        switch (one.op) {
            case 0: return a.add(b);
            case 1: return a.subtract(b);
            case 2: return a.multiply(b).setScale(3, RoundingMode.DOWN);
            case 3: return b.signum() == 0 ? null : a.divide(b, 3, RoundingMode.DOWN);
            case 4: return a.min(b);
            default: return a.max(b);
        }
    }

    int calculate() {
        List<Integer> waiting = new ArrayList<>();
        for (int i = 0; i < names.size(); i++) {
            if (of(i).master == i && of(i).op != -1) {
                waiting.add(i);
            }
        }
        for (int one : waiting) {
            if (reaches(one, one, new HashSet<>())) {
                return -1 - one;
            }
        }
        failed = new ArrayList<>();
        int changed = 0;
        while (!waiting.isEmpty()) {
            int next = -1;
            for (int one : waiting) {
                if (next == -1 && Collections.disjoint(needs(one), waiting)) {
                    next = one;
                }
            }
            waiting.remove((Integer) next);
            BigDecimal result = result(next);
            if (of(next).told || result == null || result.abs().compareTo(MOST) > 0) {
                failed.add(next);
            } else {
                String text = result.signum() == 0 ? "0" : result.stripTrailingZeros().toPlainString();
                changed += text.equals(of(next).text) ? 0 : 1;
                of(next).text = text;
            }
        }
        return changed;
    }

    int failed(int i) {
        if (i < -1 || i >= failed.size()) {
            throw new IndexOutOfBoundsException();
        }
        return i == -1 ? failed.size() : failed.get(i);
    }

    int fails(int field, boolean on) {
        argument(kind(field) == 5);
        int was = of(field).told ? 1 : 0;
        of(field).told = on;
        return was;
    }

    private String shownText(int field) {
        Shared one = of(field);
        switch (kinds.get(field)) {
            case 1: return one.text;
            case 2: return one.chosen == 1 ? "X" : "";
            case 3:
            case 4: return one.chosen == -1 ? "" : "" + one.codes.get(one.chosen);
            case 5: return one.text.isEmpty() || amount(field) == null ? one.text : numberText(one, amount(field));
            default: return "";
        }
    }

    private static String numberText(Shared one, BigDecimal amount) {
        BigDecimal rounded = amount.setScale(one.settings[3], RoundingMode.HALF_UP);
        String pattern = one.settings[4] == 1 ? "%,." : "%.";
        String text = String.format(java.util.Locale.ROOT, pattern + one.settings[3] + "f", rounded.abs());
        return rounded.signum() < 0 ? "-" + text : text;
    }

    int shown(int field, int i) {
        kind(field);
        String text = shownText(field);
        return i >= 0 && i < text.length() ? text.charAt(i) : -1;
    }

    int size(int field) {
        argument(kind(field) != 0);
        int cells = of(field).settings[1];
        int count = cells > 0 ? cells : shownText(field).length();
        for (int size : new int[] {96, 48, 24, 12, 6}) {
            if (count * size <= 2 * boxes.get(field)[0] && size + size / 4 <= boxes.get(field)[1]) {
                return size;
            }
        }
        return -6;
    }

    int validate(int field) {
        int kind = kind(field);
        argument(kind != 0);
        Shared one = of(field);
        boolean nothing = kind == 1 || kind == 5 ? one.text.isEmpty() : one.chosen == (kind == 2 ? 0 : -1);
        if (nothing) {
            return one.settings[0] == 1 ? 2 : 1;
        }
        if (kind != 5) {
            return 1;
        }
        BigDecimal amount = amount(field);
        return amount == null ? 3 : amount.compareTo(one.least) < 0 ? 4 : amount.compareTo(one.most) > 0 ? 5 : 1;
    }

    private List<int[]> marksOf(int field) {
        List<int[]> made = new ArrayList<>();
        made.add(new int[] {0, 0, 0, 0, field});
        String text = shownText(field);
        int size = Math.abs(size(field));
        int width = boxes.get(field)[0];
        int cells = of(field).settings[1];
        int left = width - text.length() * size / 2;
        int begin = new int[] {0, left / 2, left}[boxes.get(field)[2]];
        for (int k = 0; k < text.length(); k++) {
            int x = cells > 0 ? k * width / cells + (width / cells - size / 2) / 2 : begin + k * size / 2;
            made.add(new int[] {text.charAt(k), x, (boxes.get(field)[1] - size) / 2, size, field});
        }
        return made;
    }

    int appearance(int field) {
        argument(kind(field) != 0);
        marks = marksOf(field);
        return marks.size();
    }

    int mark(int i, int what) {
        return part(marks, i, what, 3);
    }

    private static int part(List<int[]> row, int i, int what, int most) {
        if (i < 0 || i >= row.size() || what < 0 || what > most) {
            throw new IndexOutOfBoundsException();
        }
        return row.get(i)[what];
    }

    int flatten(int field) {
        argument(kind(field) != 0);
        state(!flat.contains(field));
        List<int[]> made = marksOf(field);
        room(page.size() + made.size() <= 400);
        page.addAll(made);
        flat.add(field);
        return page.size();
    }

    int page(int i, int what) {
        return part(page, i, what, 4);
    }

    int write() {
        StringBuilder all = new StringBuilder();
        for (int i = 0; i < names.size(); i++) {
            Shared one = of(i);
            int kind = kinds.get(i);
            if (kind != 0 && one.master == i) {
                String value = kind == 2 ? "" + one.chosen : kind == 1 || kind == 5 ? one.text : shownText(i);
                all.append(names.get(i)).append('=').append(value).append('\n');
            }
        }
        data = all.toString();
        return data.length();
    }

    int at(int i) {
        if (i < 0 || i >= data.length()) {
            throw new ArrayIndexOutOfBoundsException();
        }
        return data.charAt(i);
    }

    /** At once, without the calls of at() that the form would have to have, too. */
    String latestData() {
        return data;
    }

    int read(int c) {
        argument(c >= -1 && c <= 255);
        if (c >= 0) {
            room(input.length() < 3000);
            input.append((char) c);
            return input.length();
        }
        String all = input.toString();
        input.setLength(0);
        List<Runnable> changes = new ArrayList<>();
        while (!all.isEmpty()) {
            int end = all.indexOf('\n');
            Runnable change = end < 0 ? null : change(all.substring(0, end));
            if (change == null) {
                return -1 - changes.size();
            }
            changes.add(change);
            all = all.substring(end + 1);
        }
        for (Runnable one : changes) {
            one.run();
        }
        return changes.size();
    }

    private Runnable change(String line) {
        int equals = line.indexOf('=');
        Shared one = equals < 0 ? null : shared.get(line.substring(0, equals));
        if (one == null || one.locked || kinds.get(one.master) == 0) {
            return null;
        }
        String value = line.substring(equals + 1);
        int kind = kinds.get(one.master);
        if (kind == 1 || kind == 5) {
            boolean good = fits(one.master, value) && value.chars().allMatch(c -> tellable(one.master, c));
            return good ? () -> one.text = value : null;
        }
        int told = value.isEmpty() ? -1 : -2;
        for (int i = 0; i < (kind == 2 ? 2 : one.codes.size()); i++) {
            told = value.equals("" + (kind == 2 ? i : one.codes.get(i))) ? i : told;
        }
        int chosen = told;
        return tellable(one.master, chosen) ? () -> one.chosen = chosen : null;
    }

    int lock(int field, boolean on) {
        argument(kind(field) != 0);
        int was = of(field).locked ? 1 : 0;
        of(field).locked = on;
        return was;
    }
}
