import java.lang.reflect.Array;
import java.util.ArrayList;
import java.util.Arrays;
import java.util.List;
import java.util.TreeSet;
import java.util.function.IntSupplier;

/**
 * The document once more, in the most literal form and without a care for speed: RunsTest holds
 * HandTown against it. It shares no code and no way of working with the class that it judges.
 */
final class PlainTown {
    private static final class Told extends RuntimeException {
        private static final long serialVersionUID = 1;
        final int k;

        Told(int k) {
            super(null, null, false, false);
            this.k = k;
        }
    }

    private static final class All {
        List<int[]> hands = new ArrayList<>();
        List<int[]> homes = new ArrayList<>();
        List<int[]> people = new ArrayList<>();
        String[] texts = new String[2];
        StringBuilder tape = new StringBuilder();
        List<Integer> waiting = new ArrayList<>();
        int minute = 0;
        int z = 1;

        All copy() {
            All other = new All();
            hands.forEach(hand -> other.hands.add(hand.clone()));
            homes.forEach(home -> other.homes.add(home.clone()));
            people.forEach(person -> other.people.add(person.clone()));
            other.texts = texts.clone();
            other.tape.append(tape);
            other.waiting.addAll(waiting);
            other.minute = minute;
            other.z = z;
            return other;
        }
    }

    private All all = new All();
    private All image;
    private int images;
    private final Object[] sheets = new Object[4];
    private final int[] told = new int[7];
    private List<Integer> trace = new ArrayList<>();

    private int act(IntSupplier body) {
        try {
            return body.getAsInt();
        } catch (Told e) {
            told[e.k]++;
            return -1000000000 - e.k;
        }
    }

    private static void ask(boolean fine, int k) {
        if (!fine) {
            throw new Told(k);
        }
    }

    private static void beyond(long v, long from, long to) {
        ask(from <= v && v <= to, 1);
    }

    private void askHand(int hand) {
        beyond(hand, 0, all.hands.size() - 1);
    }

    private void askHome(int home) {
        beyond(home, 0, all.homes.size() - 1);
    }

    private void askPerson(int person) {
        beyond(person, 0, all.people.size() - 1);
    }

    // ---- hands, houses, people

    public int hand(int turn, int offset) {
        return act(() -> {
            beyond(turn, 1, 1440);
            beyond(offset, 0, 1439);
            ask(all.hands.size() < 4, 4);
            all.hands.add(new int[] {turn, offset});
            return all.hands.size() - 1;
        });
    }

    public int handIs(int hand, int what) {
        return act(() -> {
            askHand(hand);
            beyond(what, 0, 3);
            int set = 0;
            for (int i = 0; i < all.homes.size(); i++) {
                set += all.homes.get(i)[0] == hand ? 1 << i : 0;
            }
            return new int[] {all.hands.get(hand)[0], all.hands.get(hand)[1], mark(hand, all.minute), set}[what];
        });
    }

    public int frost(int hand, int v) {
        return act(() -> {
            askHand(hand);
            beyond(v, 1, 99);
            int[] it = all.hands.get(hand);
            it[1] -= v;
            while (it[1] < 0) {
                it[1] += it[0];
            }
            while (it[1] >= it[0]) {
                it[1] -= it[0];
            }
            return it[1];
        });
    }

    public int home(int hand, int far) {
        return act(() -> {
            askHand(hand);
            beyond(far, 0, 9);
            ask(all.homes.size() < 8, 4);
            all.homes.add(new int[] {hand, far});
            return all.homes.size() - 1;
        });
    }

    public int homeIs(int home, int what) {
        return act(() -> {
            askHome(home);
            beyond(what, 0, 4);
            int[] it = all.homes.get(home);
            int set = 0;
            for (int i = 0; i < all.people.size(); i++) {
                set += all.people.get(i)[2] == home ? 1 << i : 0;
            }
            return new int[] {it[0], it[1], mark(it[0], all.minute), worth(home, all.minute), set}[what];
        });
    }

    public int person(int km, int home) {
        return act(() -> {
            beyond(km, 0, 69);
            askHome(home);
            ask(all.people.size() < 6, 4);
            all.people.add(new int[] {km / 10, km % 10, home});
            return all.people.size() - 1;
        });
    }

    public int personIs(int person, int what) {
        return act(() -> {
            askPerson(person);
            beyond(what, 0, 5);
            int[] it = all.people.get(person);
            return what < 3 ? it[what] : what == 3 ? leaps(person, all.minute)
                : what == 4 ? spans(person) : walk(person, 1, 0);
        });
    }

    public int become(int person, int km) {
        return act(() -> {
            askPerson(person);
            beyond(km, 0, 69);
            int[] it = all.people.get(person);
            int was = it[0];
            it[0] = km / 10;
            it[1] = km % 10;
            return was;
        });
    }

    public int as(int person, int kind) {
        return act(() -> {
            askPerson(person);
            beyond(kind, 0, 6);
            Class<?> it = bodiesOf(all.people.get(person)[0]).getClass();
            ask(bodiesOf(kind).getClass().isAssignableFrom(it), 5);
            return all.people.get(person)[1];
        });
    }

    public int jump(int person, int home) {
        return act(() -> {
            askPerson(person);
            askHome(home);
            int[] it = all.people.get(person);
            ask(it[2] == home || gets(person, it[2], home, all.minute), 3);
            int was = it[2];
            it[2] = home;
            return was;
        });
    }

    // ---- texts

    public int feed(long word, int n) {
        return act(() -> {
            beyond(n, 1, 8);
            ask(all.tape.length() + n <= 60, 4);
            for (int i = 0; i < n; i++) {
                all.tape.append((char) (word >> 8 * i & 255));
            }
            return all.tape.length();
        });
    }

    public int text(int use) {
        return act(() -> {
            beyond(use, 0, 1);
            String text = all.tape.toString();
            all.tape = new StringBuilder();
            String names = use == 0 ? "mth" : "rkn";
            for (int i = 0; i < text.length(); i++) {
                if (!goesOn(text.substring(0, i + 1), names)) {
                    return -10 - i;
                }
            }
            if (!isText(text, names)) {
                return -10 - text.length();
            }
            all.texts[use] = text;
            return 1;
        });
    }

    public int untell(int use) {
        return act(() -> {
            beyond(use, 0, 1);
            int was = all.texts[use] == null ? 0 : 1;
            all.texts[use] = null;
            return was;
        });
    }

    public int law(int use, int a, int b, int c) {
        return act(() -> {
            beyond(use, 0, 1);
            return use == 0 ? leapLaw(a, b, c) : worthLaw(a, b, c);
        });
    }

    // ---- minutes

    public int minutes(int n) {
        return act(() -> {
            beyond(n, 1, 720);
            ask(all.minute + n <= 9999, 3);
            return all.minute += n;
        });
    }

    public int loose(int n) {
        return act(() -> {
            beyond(n, 1, 40);
            ask(all.minute + n <= 9999, 3);
            int jumps = 0;
            for (int i = 0; i < n; i++, all.minute++) {
                if (!all.people.isEmpty()) {
                    int person = (int) (draw() % all.people.size());
                    int home = (int) (draw() % all.homes.size());
                    int[] it = all.people.get(person);
                    if (it[2] != home && gets(person, it[2], home, all.minute)) {
                        it[2] = home;
                        jumps++;
                    }
                }
            }
            return jumps;
        });
    }

    public int seed(int v) {
        int was = all.z;
        all.z = v;
        return was;
    }

    // ---- what would be

    public int markAt(int hand, int n) {
        return act(() -> {
            askHand(hand);
            beyond(n, 0, 9999);
            return mark(hand, all.minute + n);
        });
    }

    public int meet(int one, int other) {
        return act(() -> {
            askHand(one);
            askHand(other);
            ask(one != other, 1);
            int i = 0;
            while (apart(one, other, all.minute + i) != 0) {
                i++;
                ask(i <= 1440, 2);
            }
            return i;
        });
    }

    public int council() {
        return act(() -> {
            ask(!all.hands.isEmpty(), 3);
            for (int i = 0; i <= 9999; i++) {
                boolean met = true;
                for (int hand = 1; hand < all.hands.size(); hand++) {
                    met &= apart(0, hand, all.minute + i) == 0;
                }
                if (met) {
                    return i;
                }
            }
            throw new Told(2);
        });
    }

    public int soonest(int person, int home) {
        return act(() -> {
            askPerson(person);
            askHome(home);
            int set = 1 << all.people.get(person)[2];
            for (int i = 0; i <= 720; i++) {
                if ((set & 1 << home) != 0) {
                    return i;
                }
                set = next(person, set, all.minute + i, 0);
            }
            throw new Told(2);
        });
    }

    public int rooms(int person, int n) {
        return act(() -> {
            askPerson(person);
            beyond(n, 0, 720);
            return walk(person, n, 0);
        });
    }

    public int watch(int person, int home, int n, int what) {
        return act(() -> {
            askPerson(person);
            askHome(home);
            beyond(n, 1, 60);
            beyond(what, 0, 1);
            int here = all.people.get(person)[2];
            ask(here != home, 3);
            for (int size = 0; size <= 8; size++) {
                for (int shut = 0; shut < 1 << all.homes.size(); shut++) {
                    boolean may = Integer.bitCount(shut) == size && (shut & 1 << home) == 0 && (shut & 1 << here) == 0;
                    if (may && (walk(person, n, shut) & 1 << home) == 0) {
                        return what == 0 ? size : shut;
                    }
                }
            }
            throw new Told(2);
        });
    }

    public int best(int person, int n, int what) {
        return act(() -> {
            askPerson(person);
            beyond(n, 0, 60);
            beyond(what, 0, 1);
            int set = walk(person, n, 0);
            TreeSet<Integer> worths = new TreeSet<>();
            for (int home = 0; home < all.homes.size(); home++) {
                if ((set & 1 << home) != 0) {
                    worths.add(worth(home, all.minute + n));
                }
            }
            int home = 0;
            while ((set & 1 << home) == 0 || worth(home, all.minute + n) != worths.last()) {
                home++;
            }
            return what == 0 ? home : worths.last();
        });
    }

    public int odds(int person, int home, int part) {
        return act(() -> {
            askPerson(person);
            askHome(home);
            beyond(part, 0, 1);
            int here = all.people.get(person)[2];
            int above = 0;
            for (int i = 0; i <= 59; i++) {
                above += home == here || gets(person, here, home, all.minute + i) ? 1 : 0;
            }
            int below = 60;
            for (int prime : new int[] {2, 2, 3, 5}) {
                if (above % prime == 0) {
                    above /= prime;
                    below /= prime;
                }
            }
            return part == 0 ? above : below;
        });
    }

    public int fits(int sheet) {
        return act(() -> {
            askNumbers(sheet);
            int set = 0;
            for (int hand = 0; hand < all.hands.size(); hand++) {
                boolean so = true;
                for (int i = 0; i < Array.getLength(sheets[sheet]); i++) {
                    so &= Array.getInt(sheets[sheet], i) == mark(hand, all.minute + i);
                }
                set += so ? 1 << hand : 0;
            }
            return set;
        });
    }

    // ---- voices, sheets, images, what is told

    public int voice(int person, int voice, int x) {
        return act(() -> {
            askPerson(person);
            beyond(voice, 0, 3);
            trace = new ArrayList<>();
            Townsman it = bodiesOf(all.people.get(person)[0]);
            it.k = person;
            it.m = all.people.get(person)[1];
            it.trace = trace;
            return voice == 0 ? it.hails(x) : voice == 1 ? it.bows(x) : voice == 2 ? it.rings(x) : it.parts(x);
        });
    }

    public int body(int i) {
        return act(() -> {
            ask(0 <= i && i < Math.min(30, trace.size()), 2);
            return trace.get(i);
        });
    }

    public int sheet(int sheet, int bits, int n) {
        return act(() -> {
            beyond(sheet, 0, 3);
            ask(Arrays.asList(0, 8, 16, 32).contains(bits), 1);
            if (bits == 0) {
                sheets[sheet] = null;
                return 1;
            }
            ask(n >= 0, 3);
            beyond(n, 0, 24);
            sheets[sheet] = bits == 8 ? new byte[n] : bits == 16 ? new short[n] : new int[n];
            return 1;
        });
    }

    public int put(int sheet, int i, int v) {
        return act(() -> {
            askNumbers(sheet);
            beyond(i, 0, Array.getLength(sheets[sheet]) - 1);
            if (sheets[sheet] instanceof byte[] row) {
                row[i] = (byte) v;
            } else if (sheets[sheet] instanceof short[] row) {
                row[i] = (short) v;
            } else {
                ((int[]) sheets[sheet])[i] = v;
            }
            return 1;
        });
    }

    public int move(int sheet, int i, int other, int j, int n) {
        return act(() -> {
            beyond(sheet, 0, 3);
            beyond(other, 0, 3);
            ask(sheets[sheet] != null && sheets[other] != null, 2);
            ask(sheets[sheet].getClass() == sheets[other].getClass(), 5);
            beyond(Math.min(n, Math.min(i, j)), 0, Integer.MAX_VALUE);
            beyond((long) i + n, 0, Array.getLength(sheets[sheet]));
            beyond((long) j + n, 0, Array.getLength(sheets[other]));
            List<Object> numbers = new ArrayList<>();
            for (int a = 0; a < n; a++) {
                numbers.add(Array.get(sheets[sheet], i + a));
            }
            for (int a = 0; a < n; a++) {
                Array.set(sheets[other], j + a, numbers.get(a));
            }
            return n;
        });
    }

    public int offsets(int sheet) {
        return act(() -> {
            askNumbers(sheet);
            int i = 0;
            while (i < Array.getLength(sheets[sheet]) && i < all.hands.size()) {
                int v = Array.getInt(sheets[sheet], i);
                if (v < 0 || v > 1439) {
                    break;
                }
                all.hands.get(i)[1] = v;
                i++;
            }
            return i;
        });
    }

    public int judge(int sheet) {
        return act(() -> {
            askNumbers(sheet);
            int i = 0;
            while (i < Array.getLength(sheets[sheet]) && i < all.people.size()
                    && Array.getInt(sheets[sheet], i) == all.people.get(i)[2]) {
                i++;
            }
            return i;
        });
    }

    public int image() {
        image = all.copy();
        return ++images;
    }

    public int restore() {
        return act(() -> {
            ask(image != null, 2);
            all = image.copy();
            return all.minute;
        });
    }

    public int tell(int v) {
        return act(() -> {
            ask(all.waiting.size() < 24, 4);
            all.waiting.add(v);
            return all.waiting.size();
        });
    }

    public int check() {
        List<Integer> told = all.waiting;
        all.waiting = new ArrayList<>();
        for (int i = 0; i < told.size(); i++) {
            if (i >= all.hands.size() || told.get(i) != mark(i, all.minute)) {
                return 1 + i;
            }
        }
        return 0;
    }

    public int count(int what) {
        return act(() -> {
            beyond(what, 0, 7);
            return new int[] {all.hands.size(), all.homes.size(), all.people.size(), all.minute, all.tape.length(),
                all.waiting.size(), Math.min(30, trace.size()), all.z}[what];
        });
    }

    public int told(int k) {
        return act(() -> {
            beyond(k, 1, 6);
            return told[k];
        });
    }

    private void askNumbers(int sheet) {
        beyond(sheet, 0, 3);
        ask(sheets[sheet] != null, 2);
    }

    // ---- marks and walks

    private int mark(int hand, int t) {
        int turn = all.hands.get(hand)[0];
        return (t + all.hands.get(hand)[1]) % turn * 60 / turn;
    }

    private int apart(int one, int other, int t) {
        int way = Math.floorMod(mark(one, t) - mark(other, t), 60);
        return way > 30 ? 60 - way : way;
    }

    private int worth(int home, int t) {
        return worthLaw(all.homes.get(home)[1], mark(all.homes.get(home)[0], t), home);
    }

    private int leapLaw(int m, int t, int h) {
        int v = all.texts[0] == null ? m / 3 : new Sum(all.texts[0], "mth", m, t, h).whole();
        return v < 0 ? 0 : v > 30 ? 30 : v;
    }

    private int worthLaw(int r, int k, int n) {
        int v = all.texts[1] == null ? 10 * r - k : new Sum(all.texts[1], "rkn", r, k, n).whole();
        return v < -999 ? -999 : v > 999 ? 999 : v;
    }

    private int leaps(int person, int t) {
        int m = all.people.get(person)[1];
        int v = leapLaw(m, t, all.homes.size());
        int[] byKind = {v, v + 1, v / 2, v + (t % 2 == 0 ? 2 : 0), v + 1 + m, v / 2 + m, 30};
        return byKind[all.people.get(person)[0]];
    }

    private int spans(int person) {
        int m = all.people.get(person)[1];
        int[] byKind = {1, 1 + m % 3, 0, 1, 1 + m % 3, m, 9};
        return byKind[all.people.get(person)[0]];
    }

    private boolean gets(int person, int from, int to, int t) {
        int[] one = all.homes.get(from);
        int[] other = all.homes.get(to);
        return from != to && apart(one[0], other[0], t) <= leaps(person, t)
            && Math.abs(one[1] - other[1]) <= spans(person);
    }

    private int next(int person, int set, int t, int shut) {
        int next = set;
        for (int from = 0; from < all.homes.size(); from++) {
            for (int to = 0; to < all.homes.size(); to++) {
                boolean open = (set & 1 << from) != 0 && (next & 1 << to) == 0 && (shut & 1 << to) == 0;
                if (open && gets(person, from, to, t)) {
                    next |= 1 << to;
                }
            }
        }
        return next;
    }

    private int walk(int person, int n, int shut) {
        int set = 1 << all.people.get(person)[2];
        for (int i = 0; i < n; i++) {
            set = next(person, set, all.minute + i, shut);
        }
        return set;
    }

    private long draw() {
        all.z = (int) (all.z * 1103515245L + 12345L);
        return (all.z & 0xffffffffL) / 256;
    }

    // ---- texts: which ends a rule may have from a place on; a text is what the first rule can end with

    private static boolean isText(String s, String names) {
        return ends("|", s, 0, names, 0).contains(s.length());
    }

    /** Whether a text begins so: then it can be closed at once, or behind one more number. */
    private static boolean goesOn(String start, String names) {
        for (int brackets = 0; brackets <= 5; brackets++) {
            String close = ")".repeat(brackets);
            if (isText(start + close, names) || isText(start + "0" + close, names)) {
                return true;
            }
        }
        return false;
    }

    private static TreeSet<Integer> ends(String signs, String s, int from, String names, int open) {
        switch (signs) {
            case "|": return row(signs, "&", 60, s, from, names, open);
            case "&": return row(signs, "<=>", 60, s, from, names, open);
            case "<=>": return row(signs, "+-", 1, s, from, names, open);
            case "+-": return row(signs, "*/%", 60, s, from, names, open);
            case "*/%": return row(signs, "", 60, s, from, names, open);
            default: return single(s, from, names, open);
        }
    }

    private static TreeSet<Integer> row(String signs, String part, int most, String s, int from, String names, int open) {
        TreeSet<Integer> found = ends(part, s, from, names, open);
        TreeSet<Integer> latest = found;
        for (int i = 0; i < most && !latest.isEmpty(); i++) {
            TreeSet<Integer> next = new TreeSet<>();
            for (int end : latest) {
                if (end < s.length() && signs.indexOf(s.charAt(end)) >= 0) {
                    next.addAll(ends(part, s, end + 1, names, open));
                }
            }
            latest = next;
            found = new TreeSet<>(found);
            found.addAll(next);
        }
        return found;
    }

    private static TreeSet<Integer> single(String s, int from, String names, int open) {
        TreeSet<Integer> found = new TreeSet<>();
        if (from >= s.length()) {
            return found;
        }
        char c = s.charAt(from);
        for (int n = 1; n <= 4 && from + n <= s.length() && s.substring(from, from + n).matches("[0-9]+"); n++) {
            found.add(from + n);
        }
        if (names.indexOf(c) >= 0) {
            found.add(from + 1);
        }
        if (c == '!' && open < 5) {
            found.addAll(single(s, from + 1, names, open + 1));
        }
        if (c == '(' && open < 5) {
            for (int end : ends("|", s, from + 1, names, open + 1)) {
                if (end < s.length() && s.charAt(end) == ')') {
                    found.add(end + 1);
                }
            }
        }
        return found;
    }

    /** Works a text out anew from its signs each time. */
    private static final class Sum {
        private final String s;
        private final String names;
        private final int[] values;
        private int at = 0;

        Sum(String s, String names, int... values) {
            this.s = s;
            this.names = names;
            this.values = values;
        }

        private boolean sees(String signs) {
            return at < s.length() && signs.indexOf(s.charAt(at)) >= 0;
        }

        int whole() {
            int v = both();
            while (sees("|")) {
                at++;
                int w = both();
                v = v == 0 && w == 0 ? 0 : 1;
            }
            return v;
        }

        private int both() {
            int v = compared();
            while (sees("&")) {
                at++;
                int w = compared();
                v = v == 0 || w == 0 ? 0 : 1;
            }
            return v;
        }

        private int compared() {
            int v = added();
            if (sees("<=>")) {
                char sign = s.charAt(at++);
                int order = Integer.compare(v, added());
                return order == sign - '=' ? 1 : 0;
            }
            return v;
        }

        private int added() {
            int v = multiplied();
            while (sees("+-")) {
                v = s.charAt(at++) == '+' ? v + multiplied() : v - multiplied();
            }
            return v;
        }

        private int multiplied() {
            int v = single();
            while (sees("*/%")) {
                char sign = s.charAt(at++);
                long w = single();
                v = (int) (sign == '*' ? v * w : w == 0 ? 0 : sign == '/' ? v / w : v % w);
            }
            return v;
        }

        private int single() {
            char c = s.charAt(at++);
            if (c == '!') {
                return single() == 0 ? 1 : 0;
            }
            if (c == '(') {
                int v = whole();
                at++;
                return v;
            }
            if (names.indexOf(c) >= 0) {
                return values[names.indexOf(c)];
            }
            int v = c - '0';
            while (sees("0123456789")) {
                v = v * 10 + s.charAt(at++) - '0';
            }
            return v;
        }
    }

    // ---- voices

    private static Townsman bodiesOf(int kind) {
        switch (kind) {
            case 1: return new Jumper();
            case 2: return new Widow();
            case 3: return new Milkman();
            case 4: return new Thief();
            case 5: return new Vicar();
            case 6: return new Winder();
            default: return new Townsman();
        }
    }

    private static class Townsman {
        int k;
        int m;
        List<Integer> trace;

        int hails(int x) {
            trace.add(10);
            return x + k;
        }

        int bows(int x) {
            trace.add(11);
            return hails(x) * 2;
        }

        int rings(int x) {
            trace.add(12);
            return bows(x) - m;
        }

        int parts(int x) {
            trace.add(13);
            ask(m - k != 0, 6);
            return (int) ((long) x / (m - k));
        }
    }

    private static class Jumper extends Townsman {
        @Override
        int hails(int x) {
            trace.add(20);
            return super.hails(x) - 4;
        }

        @Override
        int parts(int x) {
            trace.add(21);
            return super.parts(x) + bows(1);
        }
    }

    private static class Widow extends Townsman {
        @Override
        int bows(int x) {
            trace.add(30);
            return 0 - super.bows(x);
        }
    }

    private static class Milkman extends Townsman {
        @Override
        int rings(int x) {
            trace.add(40);
            return super.rings(x / 2);
        }
    }

    private static class Thief extends Jumper {
        @Override
        int hails(int x) {
            trace.add(50);
            return super.hails(x) * 3;
        }

        @Override
        int rings(int x) {
            trace.add(51);
            return super.rings(x) ^ k;
        }
    }

    private static class Vicar extends Widow {
        @Override
        int bows(int x) {
            trace.add(60);
            return super.bows(x + 1);
        }
    }

    private static class Winder extends Townsman {
        @Override
        int hails(int x) {
            trace.add(70);
            return 9;
        }

        @Override
        int bows(int x) {
            trace.add(71);
            return super.bows(x) + m;
        }
    }
}
