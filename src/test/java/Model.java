import java.util.ArrayDeque;
import java.util.ArrayList;
import java.util.Arrays;
import java.util.Deque;
import java.util.List;
import java.util.function.IntPredicate;
import java.util.regex.Matcher;
import java.util.regex.Pattern;
import java.util.stream.IntStream;

/** The document told a second time, slowly and by other means: copies, lists, every row tried out. */
final class Model {
    private static final int BAD = -1, NO = -2, FULL = -3, NONE = -4;
    private static final Pattern ENTRY = Pattern.compile("([itws])([0-9]{1,2}(?:,[0-9]{1,2})*);");

    /** All that back() and undo() bring back. */
    private record State(List<Integer> shades, List<Boolean> powder, int gone) { }

    private static final class Laid {
        final List<int[]> items = new ArrayList<>();
        final List<int[]> touches = new ArrayList<>();
        final List<int[]> washings = new ArrayList<>();
        int supper = 7;

        boolean takes(char letter, int[] n) {
            switch (letter) {
                case 'i':
                    return n.length == 2 && n[0] < 6 && n[1] < 10 && items.size() < 9 && items.add(n);
                case 't':
                    return n.length == 3 && n[0] < 12 && n[1] < items.size() && n[2] < items.size() && n[1] != n[2]
                        && touches.size() < 10 && touches.add(n);
                case 'w':
                    return n.length == 2 && n[0] < 12 && n[1] < items.size() && person(n[1])
                        && washings.size() < 4 && washings.add(n);
                default:
                    supper = n[0];
                    return n.length == 1 && n[0] < 12;
            }
        }

        boolean person(int i) {
            return items.get(i)[0] < 3 || items.get(i)[0] == 5;
        }

        int kind(int i) {
            return items.get(i)[0];
        }
    }

    private final StringBuilder text = new StringBuilder();
    private Laid laid = new Laid();
    private State now;
    private final Deque<State> past = new ArrayDeque<>();
    private final Deque<State> kept = new ArrayDeque<>();
    private final List<int[]> shown = new ArrayList<>();

    Model() {
        text.append("i5,0;i3,0;i0,0;i1,0;i2,0;i4,6;i0,0;t0,0,1;t1,2,1;t2,3,5;t3,2,6;t4,4,5;w5,2;s7;");
        lay();
        text.setLength(0);
    }

    int write(int letter) {
        if (letter < 32 || letter > 126) {
            return BAD;
        }
        if (text.length() == 200) {
            return FULL;
        }
        return text.append((char) letter).length();
    }

    int wipe() {
        int was = text.length();
        text.setLength(0);
        return was;
    }

    private int read(Laid into) {
        Matcher entry = ENTRY.matcher(text);
        int place = 0;
        while (place < text.length()) {
            entry.region(place, text.length());
            if (!entry.lookingAt()) {
                return place;
            }
            int[] numbers = Arrays.stream(entry.group(2).split(",")).mapToInt(Integer::parseInt).toArray();
            if (!into.takes(entry.group(1).charAt(0), numbers)) {
                return place;
            }
            place = entry.end();
        }
        return NONE;
    }

    int fault() {
        return read(new Laid());
    }

    int lay() {
        Laid next = new Laid();
        if (read(next) != NONE || IntStream.range(0, next.items.size()).noneMatch(next::person)) {
            return NO;
        }
        laid = next;
        now = atFirst();
        past.clear();
        kept.clear();
        shown.clear();
        return size();
    }

    private State atFirst() {
        return new State(laid.items.stream().map(n -> n[1]).toList(), laid.items.stream().map(n -> false).toList(), 0);
    }

    private int size() {
        return laid.items.size();
    }

    private boolean is(int i) {
        return i >= 0 && i < size();
    }

    private boolean isPerson(int i) {
        return is(i) && laid.person(i);
    }

    private static int seen(State state, int i) {
        return state.powder.get(i) ? 0 : state.shades.get(i);
    }

    int item(int i, int what) {
        if (!is(i) || what < 0 || what > 4) {
            return BAD;
        }
        return new int[] {laid.kind(i), now.shades.get(i), seen(now, i), laid.person(i) ? 1 : 0, now.powder.get(i) ? 1 : 0}[what];
    }

    int hour(int h, int what) {
        if (h < 0 || h > 11 || what < 0 || what > 1) {
            return BAD;
        }
        return (int) (what == 0 ? laid.touches : laid.washings).stream().filter(n -> n[0] == h).count();
    }

    private static <T> List<T> with(List<T> list, int i, T value) {
        List<T> copy = new ArrayList<>(list);
        copy.set(i, value);
        return copy;
    }

    private int giving(State state, int i) {
        switch (laid.kind(i)) {
            case 5: return 8;
            case 1: return Math.max(state.shades.get(i) - 2, 0);
            default: return Math.max(state.shades.get(i) - 1, 0);
        }
    }

    private int getting(State state, int i, int given) {
        int has = state.shades.get(i);
        if (laid.kind(i) == 5 || has >= given) {
            return has;
        }
        return laid.kind(i) == 1 ? given - 1 : given;
    }

    private State touching(State state, int a, int b) {
        int forA = getting(state, a, giving(state, b));
        int forB = getting(state, b, giving(state, a));
        return new State(with(with(state.shades, a, forA), b, forB), with(with(state.powder, a, false), b, false), state.gone);
    }

    private State lighter(State state, int i, int by) {
        return new State(with(state.shades, i, Math.max(0, state.shades.get(i) - by)), state.powder, state.gone);
    }

    private State washing(State state, int i) {
        return lighter(state, i, laid.kind(i) == 2 ? 4 : 2);
    }

    private State hourLater(State state) {
        int hour = state.gone % 12;
        for (int[] n : laid.touches) {
            state = n[0] == hour ? touching(state, n[1], n[2]) : state;
        }
        for (int[] n : laid.washings) {
            state = n[0] == hour ? washing(state, n[1]) : state;
        }
        for (int i = 0; i < size(); i++) {
            boolean fades = laid.person(i) && List.of(2, 5, 8, 11).contains(hour) || laid.kind(i) == 3 && List.of(5, 11).contains(hour);
            state = fades ? lighter(state, i, 1) : state;
        }
        List<Boolean> powder = hour == laid.supper ? state.powder.stream().map(p -> false).toList() : state.powder;
        return new State(state.shades, powder, state.gone + 1);
    }

    private State later(State state, int hours) {
        return hours == 0 ? state : later(hourLater(state), hours - 1);
    }

    private void become(State next) {
        past.push(now);
        if (past.size() > 8) {
            past.removeLast();
        }
        now = next;
    }

    int pass(int n) {
        if (n < 1 || n > 24) {
            return BAD;
        }
        become(later(now, n));
        return now.gone % 12;
    }

    private static int sum(State state) {
        return state.shades.stream().mapToInt(s -> s).sum();
    }

    int touch(int a, int b) {
        if (!is(a) || !is(b) || a == b) {
            return BAD;
        }
        int was = sum(now);
        become(touching(now, a, b));
        return sum(now) - was;
    }

    int wash(int a) {
        if (!isPerson(a)) {
            return BAD;
        }
        become(washing(now, a));
        return now.shades.get(a);
    }

    int powder(int a) {
        if (!isPerson(a)) {
            return BAD;
        }
        if (now.powder.get(a)) {
            return NO;
        }
        become(new State(now.shades, with(now.powder, a, true), now.gone));
        return (int) now.powder.stream().filter(p -> p).count();
    }

    int undo() {
        if (past.isEmpty()) {
            return NO;
        }
        now = past.pop();
        return past.size();
    }

    int behind(int n, int i, int what) {
        if (n < 0 || n > 48 || !is(i) || what < 0 || what > 1) {
            return BAD;
        }
        State then = later(now, n);
        return what == 0 ? then.shades.get(i) : seen(then, i);
    }

    int asIf(int i, int s, int k) {
        if (!isPerson(i) || s < 0 || s > 9 || k < 0 || k > 3) {
            return BAD;
        }
        List<List<Integer>> rows = List.of(List.of());
        for (int length = 0; length <= 3; length++) {
            List<List<Integer>> longer = new ArrayList<>();
            for (List<Integer> row : rows) {
                State state = now;
                for (int other : row) {
                    state = touching(state, i, other);
                }
                if (state.shades.get(i) == s) {
                    return k == 0 ? length : k > length ? NONE : row.get(k - 1);
                }
                IntStream.range(0, size()).filter(o -> o != i).forEach(o -> {
                    List<Integer> more = new ArrayList<>(row);
                    more.add(o);
                    longer.add(more);
                });
            }
            rows = longer;
        }
        return NONE;
    }

    int soap(int s) {
        if (s < 0 || s > 9) {
            return BAD;
        }
        int many = 0;
        State state = now;
        for (int i = 0; i < size(); i++) {
            while (laid.person(i) && state.shades.get(i) > s) {
                state = washing(state, i);
                many++;
            }
        }
        return many;
    }

    private int twos(int what, IntPredicate fits) {
        if (what < 0 || what > 1) {
            return BAD;
        }
        int[] all = IntStream.range(0, 90).filter(n -> n / 10 < n % 10 && is(n / 10) && is(n % 10)).filter(fits).toArray();
        return what == 0 ? all.length : all.length == 0 ? NONE : all[0];
    }

    int alike(int what) {
        return twos(what, n -> laid.person(n / 10) && laid.person(n % 10) && seen(now, n / 10) == seen(now, n % 10)
            && seen(now, n / 10) > 0);
    }

    int show(int i, int s) {
        if (!is(i) || s < 0 || s > 9) {
            return BAD;
        }
        if (shown.size() == 6) {
            return FULL;
        }
        shown.add(new int[] {i, s});
        return shown.size();
    }

    int forget() {
        int many = shown.size();
        shown.clear();
        return many;
    }

    private boolean fits(State state) {
        return shown.stream().allMatch(n -> state.shades.get(n[0]) == n[1]);
    }

    int touched(int what) {
        return twos(what, n -> fits(touching(now, n / 10, n % 10)));
    }

    private int orders(State state, List<int[]> left) {
        if (left.isEmpty()) {
            return fits(state) ? 1 : 0;
        }
        int many = 0;
        for (int t = 0; t < left.size(); t++) {
            List<int[]> rest = new ArrayList<>(left);
            int[] n = rest.remove(t);
            many += orders(touching(state, n[1], n[2]), rest);
        }
        return many;
    }

    int order(int what) {
        if (what < 0 || what > 1) {
            return BAD;
        }
        List<int[]> told = laid.touches.subList(0, Math.min(6, laid.touches.size()));
        if (what == 0) {
            return orders(atFirst(), told);
        }
        State state = atFirst();
        for (int[] n : told) {
            state = touching(state, n[1], n[2]);
        }
        return fits(state) ? 1 : 0;
    }

    int box() {
        return IntStream.range(0, size()).filter(i -> {
            List<Integer> shades = IntStream.range(0, size()).mapToObj(o -> o == i ? 9 : 0).toList();
            return fits(later(new State(shades, atFirst().powder, 0), Math.min(48, now.gone)));
        }).map(i -> 1 << i).sum();
    }

    private List<int[]> until(int h) {
        return laid.touches.stream().filter(n -> n[0] <= h).sorted((n, m) -> n[0] - m[0]).toList();
    }

    /** Forward from every ITEM, unlike the program. */
    int from(int i, int h) {
        if (!is(i) || h < 0 || h > 11) {
            return BAD;
        }
        int bits = 0;
        for (int start = 0; start < size(); start++) {
            int reached = 1 << start;
            for (int[] n : until(h)) {
                int both = 1 << n[1] | 1 << n[2];
                reached |= (reached & both) == 0 ? 0 : both;
            }
            bits |= (reached >> i & 1) << start;
        }
        return bits;
    }

    private int fewest(int at, int goal, List<int[]> touches) {
        if (at == goal) {
            return 0;
        }
        int best = NONE;
        for (int t = 0; t < touches.size(); t++) {
            int[] n = touches.get(t);
            if (n[1] != at && n[2] != at) {
                continue;
            }
            int more = fewest(n[1] == at ? n[2] : n[1], goal, touches.subList(t + 1, touches.size()));
            best = more != NONE && (best == NONE || more + 1 < best) ? more + 1 : best;
        }
        return best;
    }

    int led(int a, int b, int h) {
        return !is(a) || !is(b) || h < 0 || h > 11 ? BAD : fewest(a, b, until(h));
    }

    int dogs(int z, int n, int what) {
        if (z < 0 || z > 9999 || n < 1 || n > 48 || what < 0 || what > 1) {
            return BAD;
        }
        State state = now;
        for (int k = 0; k < n; k++) {
            long x = 7919L * z + 6151L * k + 1;
            int draw = (int) (x * x % 65521) / 8;
            int a = draw % size();
            int b = draw / 8 % size();
            state = hourLater(a == b ? state : touching(state, a, b));
        }
        List<Integer> shades = state.shades;
        return what == 0 ? (int) shades.stream().filter(s -> s > 0).count()
            : IntStream.range(0, size()).filter(laid::person).map(shades::get).max().orElse(0);
    }

    int keep() {
        if (kept.size() == 2) {
            return FULL;
        }
        kept.push(now);
        return kept.size();
    }

    int back() {
        if (kept.isEmpty()) {
            return NO;
        }
        now = kept.pop();
        past.clear();
        return kept.size();
    }

    int count(int what) {
        if (what < 0 || what > 10) {
            return BAD;
        }
        int shaded = (int) now.shades.stream().filter(s -> s > 0).count();
        int people = (int) IntStream.range(0, size()).filter(laid::person).count();
        return new int[] {size(), people, laid.touches.size(), now.gone % 12, now.gone, shaded, shown.size(), past.size(),
            kept.size(), text.length(), laid.supper}[what];
    }
}
