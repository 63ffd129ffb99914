import java.math.BigInteger;
import java.util.ArrayDeque;
import java.util.ArrayList;
import java.util.Deque;
import java.util.HashSet;
import java.util.List;
import java.util.Set;
import java.util.TreeSet;
import java.util.regex.Matcher;
import java.util.regex.Pattern;

/**
 * The document's words once more, as plainly as they go and without regard to speed: the program's
 * answers are compared with those of this one. It shares no code and no way of working with it.
 */
final class Model {
    static final class Entry {
        int what;
        int weight;
        int rarity;
        int group;
        boolean once;
        boolean spent;
    }

    static final class World {
        final List<List<Entry>> tables = new ArrayList<>();
        final int[] draws = {1, 1, 1};
        final int[] counter = new int[4];
        final int[] limit = new int[4];
        int rise = 0;
        BigInteger s = BigInteger.ONE;
        int openings = 0;
        final List<int[]> finds = new ArrayList<>();

        World() {
            for (int t = 0; t < 3; t++) {
                tables.add(new ArrayList<>());
            }
        }

        World copy() {
            World w = new World();
            for (int t = 0; t < 3; t++) {
                for (Entry e : tables.get(t)) {
                    Entry f = new Entry();
                    f.what = e.what;
                    f.weight = e.weight;
                    f.rarity = e.rarity;
                    f.group = e.group;
                    f.once = e.once;
                    f.spent = e.spent;
                    w.tables.get(t).add(f);
                }
                w.draws[t] = draws[t];
            }
            for (int r = 0; r < 4; r++) {
                w.counter[r] = counter[r];
                w.limit[r] = limit[r];
            }
            w.rise = rise;
            w.s = s;
            w.openings = openings;
            w.finds.addAll(finds);
            return w;
        }
    }

    /** What has happened so far in an opening: what was drawn, in its order, each with its table. */
    static final class Way {
        final List<Entry> drawn = new ArrayList<>();
        final List<Integer> from = new ArrayList<>();

        Way with(Entry e, int t) {
            Way w = new Way();
            w.drawn.addAll(drawn);
            w.from.addAll(from);
            w.drawn.add(e);
            w.from.add(t);
            return w;
        }

        List<Entry> found() {
            List<Entry> items = new ArrayList<>();
            for (Entry e : drawn) {
                if (e.what < 16) {
                    items.add(e);
                }
            }
            return items;
        }

        boolean foundRarity(int least) {
            for (Entry e : found()) {
                if (e.rarity >= least) {
                    return true;
                }
            }
            return false;
        }
    }

    /** The end of an opening: how it went, and its share. */
    record End(Way way, long share) { }

    World w = new World();
    final Deque<World> saved = new ArrayDeque<>();
    final StringBuilder text = new StringBuilder();

    // ---- the words of the terms

    int present(Entry e) {
        return e.rarity > 0 ? e.weight * (100 + w.rise * w.counter[e.rarity]) / 100 : e.weight;
    }

    boolean can(Way way, int t, Entry e, int q) {
        if (e.spent || e.once && way.drawn.contains(e)) {
            return false;
        }
        for (int i = 0; i < way.drawn.size(); i++) {
            if (e.group != 0 && way.from.get(i) == t && way.drawn.get(i).group == e.group) {
                return false;
            }
        }
        return e.what < 16 ? e.rarity >= q : !drawable(way, e.what - 16, q).isEmpty();
    }

    List<Entry> drawable(Way way, int t, int q) {
        List<Entry> those = new ArrayList<>();
        for (Entry e : w.tables.get(t)) {
            if (can(way, t, e, q)) {
                those.add(e);
            }
        }
        return those;
    }

    int sum(List<Entry> those) {
        int n = 0;
        for (Entry e : those) {
            n += present(e);
        }
        return n;
    }

    int wanted(Way way, int t) {
        int q = 0;
        for (int r = 1; r <= 3; r++) {
            if (w.limit[r] > 0 && w.counter[r] + 1 >= w.limit[r] && !way.foundRarity(r)
                    && !drawable(way, t, r).isEmpty()) {
                q = r;
            }
        }
        return q;
    }

    int number(int n) {
        w.s = w.s.multiply(BigInteger.valueOf(1103515245)).add(BigInteger.valueOf(12345))
                .mod(BigInteger.valueOf(2147483648L));
        return w.s.divide(BigInteger.valueOf(65536)).mod(BigInteger.valueOf(n)).intValue();
    }

    Way drawFrom(Way way, int t, int q) {
        List<Entry> those = drawable(way, t, q);
        if (those.isEmpty()) {
            return way;
        }
        int number = number(sum(those));
        int upTo = 0;
        for (Entry e : those) {
            upTo += present(e);
            if (upTo > number) {
                Way then = way.with(e, t);
                return e.what < 16 ? then : drawFrom(then, e.what - 16, q);
            }
        }
        throw new AssertionError("no entry for the number");
    }

    int openNow(int t) {
        Way way = new Way();
        w.openings++;
        for (int i = 0; i < w.draws[t]; i++) {
            way = drawFrom(way, t, wanted(way, t));
        }
        for (Entry e : way.drawn) {
            e.spent |= e.once;
        }
        for (Entry e : way.found()) {
            w.finds.add(new int[] {e.what, e.rarity, w.openings});
        }
        for (int r = 1; r <= 3; r++) {
            w.counter[r] = way.foundRarity(r) ? 0 : Math.min(200, w.counter[r] + 1);
        }
        return way.found().size();
    }

    List<End> ends(int t) {
        List<End> before = new ArrayList<>();
        before.add(new End(new Way(), 1000000000L));
        for (int i = 0; i < w.draws[t]; i++) {
            List<End> after = new ArrayList<>();
            for (End end : before) {
                hand(end, t, wanted(end.way, t), after);
            }
            before = after;
        }
        return before;
    }

    void hand(End end, int t, int q, List<End> after) {
        List<Entry> those = drawable(end.way, t, q);
        if (those.isEmpty()) {
            after.add(end);
        }
        for (Entry e : those) {
            End then = new End(end.way.with(e, t), end.share * present(e) / sum(those));
            if (e.what < 16) {
                after.add(then);
            } else {
                hand(then, e.what - 16, q, after);
            }
        }
    }

    // ---- exceptions

    static void index(boolean fits) {
        if (!fits) {
            throw new IndexOutOfBoundsException();
        }
    }

    static void argument(boolean fits) {
        if (!fits) {
            throw new IllegalArgumentException();
        }
    }

    static void state(boolean fits) {
        if (!fits) {
            throw new IllegalStateException();
        }
    }

    static boolean in(int v, int least, int greatest) {
        return least <= v && v <= greatest;
    }

    Entry get(int t, int e) {
        index(in(t, 0, 2));
        index(in(e, 0, w.tables.get(t).size() - 1));
        return w.tables.get(t).get(e);
    }

    void save() {
        saved.addLast(w.copy());
        if (saved.size() > 4) {
            saved.removeFirst();
        }
    }

    // ---- the calls

    int setDraws(int t, int draws) {
        index(in(t, 0, 2));
        argument(in(draws, 1, 2));
        save();
        int before = w.draws[t];
        w.draws[t] = draws;
        return before;
    }

    int addEntry(int t, int what, int weight, int rarity, int group, boolean once) {
        index(in(t, 0, 2));
        argument(in(what, 0, 15) || in(what, 17 + t, 18));
        argument(in(weight, 1, 1000) && in(rarity, 0, 3) && in(group, 0, 3));
        argument(what < 16 || rarity == 0);
        state(w.tables.get(t).size() < 6);
        save();
        w.tables.get(t).add(made(what, weight, rarity, group, once));
        return w.tables.get(t).size() - 1;
    }

    static Entry made(int what, int weight, int rarity, int group, boolean once) {
        Entry e = new Entry();
        e.what = what;
        e.weight = weight;
        e.rarity = rarity;
        e.group = group;
        e.once = once;
        return e;
    }

    int removeEntry(int t, int e) {
        get(t, e);
        save();
        w.tables.get(t).remove(e);
        return w.tables.get(t).size();
    }

    int setWeight(int t, int e, int weight) {
        get(t, e);
        argument(in(weight, 1, 1000));
        save();
        int before = get(t, e).weight;
        get(t, e).weight = weight;
        return before;
    }

    int restore() {
        save();
        int spent = value(6);
        for (List<Entry> table : w.tables) {
            for (Entry e : table) {
                e.spent = false;
            }
        }
        return spent;
    }

    int entry(int t, int n, int what) {
        Entry e = get(t, n);
        argument(in(what, 0, 7));
        boolean first = can(new Way(), t, e, wanted(new Way(), t));
        return new int[] {e.what, e.weight, e.rarity, e.group, e.once ? 1 : 0, e.spent ? 1 : 0, present(e),
            first ? 1 : 0}[what];
    }

    int table(int t, int what) {
        index(in(t, 0, 2));
        argument(in(what, 0, 3));
        int q = wanted(new Way(), t);
        return new int[] {w.draws[t], w.tables.get(t).size(), q, sum(drawable(new Way(), t, q))}[what];
    }

    int setCounter(int r, int v) {
        index(in(r, 1, 3));
        argument(in(v, 0, 200));
        save();
        int before = w.counter[r];
        w.counter[r] = v;
        return before;
    }

    int setLimit(int r, int v) {
        index(in(r, 1, 3));
        argument(in(v, 0, 200));
        save();
        int before = w.limit[r];
        w.limit[r] = v;
        return before;
    }

    int setRise(int rise, int s) {
        argument(in(rise, 0, 50) && in(s, -1, 999999));
        save();
        int before = w.rise;
        w.rise = rise;
        w.s = s == -1 ? w.s : BigInteger.valueOf(s);
        return before;
    }

    int luck(int r, boolean limit) {
        index(in(r, 1, 3));
        return limit ? w.limit[r] : w.counter[r];
    }

    int value(int what) {
        argument(in(what, 0, 7));
        int entries = 0;
        int spent = 0;
        for (List<Entry> table : w.tables) {
            for (Entry e : table) {
                entries++;
                spent += e.spent ? 1 : 0;
            }
        }
        Set<Integer> items = new HashSet<>();
        for (int[] f : w.finds) {
            items.add(f[0]);
        }
        return new int[] {w.rise, w.s.intValueExact(), w.openings, w.finds.size(), Math.min(20, w.finds.size()),
            entries, spent, items.size()}[what];
    }

    int open(int t) {
        index(in(t, 0, 2));
        save();
        return openNow(t);
    }

    int openOften(int t, int times) {
        index(in(t, 0, 2));
        argument(in(times, 1, 200));
        save();
        int found = 0;
        for (int i = 0; i < times; i++) {
            found += openNow(t);
        }
        return found;
    }

    int find(int i, int what) {
        argument(i >= 0 && in(what, 0, 2));
        return i < value(4) ? w.finds.get(w.finds.size() - 1 - i)[what] : -1;
    }

    int often(int item) {
        index(in(item, 0, 15));
        int n = 0;
        for (int[] f : w.finds) {
            n += f[0] == item ? 1 : 0;
        }
        return n;
    }

    int chance(int t, int n, boolean below) {
        Entry e = get(t, n);
        if (entry(t, n, 7) == 0) {
            return below ? 1 : 0;
        }
        BigInteger above = BigInteger.valueOf(present(e));
        BigInteger under = BigInteger.valueOf(table(t, 3));
        return (below ? under : above).divide(above.gcd(under)).intValueExact();
    }

    int chanceOf(int t, int item) {
        index(in(t, 0, 2) && in(item, 0, 15));
        long sum = 0;
        for (End end : ends(t)) {
            boolean is = false;
            for (Entry e : end.way.found()) {
                is |= e.what == item;
            }
            sum += is ? end.share : 0;
        }
        return Math.toIntExact(sum);
    }

    int chanceRare(int t, int r) {
        index(in(t, 0, 2));
        argument(in(r, 0, 3));
        return rare(ends(t), r);
    }

    static int rare(List<End> ends, int r) {
        long sum = 0;
        for (End end : ends) {
            sum += end.way.foundRarity(r) ? end.share : 0;
        }
        return Math.toIntExact(sum);
    }

    long meanFinds(int t) {
        index(in(t, 0, 2));
        long sum = 0;
        for (End end : ends(t)) {
            sum += end.share * end.way.found().size();
        }
        return sum;
    }

    double luckyShare() {
        Set<Integer> numbers = new TreeSet<>();
        for (int i = 0; i < value(4); i++) {
            numbers.add(find(i, 2));
        }
        return w.openings == 0 ? 0.0 : (double) numbers.size() / (double) w.openings;
    }

    int soonest(int t, int item) {
        index(in(t, 0, 2) && in(item, 0, 15));
        World before = w;
        w = before.copy();
        int had = often(item);
        int answer = -1;
        for (int i = 1; i <= 300 && answer == -1; i++) {
            openNow(t);
            answer = often(item) > had ? i : -1;
        }
        w = before;
        return answer;
    }

    int bestDouble(int t, int item) {
        index(in(t, 0, 2) && in(item, 0, 15));
        int best = -1;
        int greatest = -1;
        for (int e = 0; e < w.tables.get(t).size(); e++) {
            int weight = get(t, e).weight;
            get(t, e).weight = Math.min(1000, weight * 2);
            int c = chanceOf(t, item);
            get(t, e).weight = weight;
            if (c > greatest) {
                greatest = c;
                best = e;
            }
        }
        return best;
    }

    int append(int v) {
        argument(in(v, 0, 127));
        state(text.length() < 160);
        text.append((char) v);
        return text.length();
    }

    int clearText() {
        int length = text.length();
        text.setLength(0);
        return length;
    }

    private static final Pattern SHAPE =
            Pattern.compile("(?:d[0-2][12];|e[0-2],[0-9]{1,2},[0-9]{1,4},[0-3][0-3]o?;)*");
    private static final Pattern ENTRY =
            Pattern.compile("e([0-2])(?:,([0-9]{1,2})(?:,([0-9]{1,4})(?:,([0-3])([0-3])?)?)?)?");

    /** Where the shape of the text breaks, whatever its numbers are; -1 if it is whole. */
    static int brokenShape(String t) {
        for (int i = 1; i <= t.length(); i++) {
            Matcher m = SHAPE.matcher(t.substring(0, i));
            if (!m.matches() && !m.hitEnd()) {
                return i - 1;
            }
        }
        return SHAPE.matcher(t).matches() ? -1 : t.length();
    }

    /** The fault that is found first, of all kinds of fault, each found where it is found; -1 if there is none. */
    static int fault(String t) {
        int shape = brokenShape(t);
        int foundAt = shape == -1 ? Integer.MAX_VALUE : shape;
        int fault = shape;
        String whole = t.substring(0, shape == -1 ? t.length() : shape);
        int[] counts = new int[3];
        Matcher m = ENTRY.matcher(whole);
        while (m.find()) {
            int table = m.group(1).charAt(0) - '0';
            boolean link = false;
            List<int[]> more = new ArrayList<>();
            if (++counts[table] > 6) {
                more.add(new int[] {m.start(1), m.start(1)});
            }
            if (m.group(2) != null) {
                int what = Integer.parseInt(m.group(2));
                link = what >= 16;
                if (ended(t, m.end(2)) && (what > 18 || what >= 16 && what - 16 <= table)) {
                    more.add(new int[] {m.end(2), m.start(2)});
                }
            }
            if (m.group(3) != null) {
                int weight = Integer.parseInt(m.group(3));
                if (ended(t, m.end(3)) && (weight < 1 || weight > 1000)) {
                    more.add(new int[] {m.end(3), m.start(3)});
                }
            }
            if (m.group(4) != null && link && !m.group(4).equals("0")) {
                more.add(new int[] {m.start(4), m.start(4)});
            }
            for (int[] f : more) {
                if (f[0] < foundAt || f[0] == foundAt && f[1] < fault) {
                    foundAt = f[0];
                    fault = f[1];
                }
            }
        }
        return fault;
    }

    private static boolean ended(String t, int i) {
        return i >= t.length() || !Character.isDigit(t.charAt(i));
    }

    int parse() {
        int fault = fault(text.toString());
        if (fault != -1) {
            return -10 - fault;
        }
        save();
        for (int t = 0; t < 3; t++) {
            w.tables.get(t).clear();
            w.draws[t] = 1;
        }
        for (String part : text.toString().split(";")) {
            if (part.startsWith("d")) {
                w.draws[part.charAt(1) - '0'] = part.charAt(2) - '0';
            } else if (part.startsWith("e")) {
                String[] told = part.substring(1).split(",");
                w.tables.get(Integer.parseInt(told[0])).add(made(Integer.parseInt(told[1]),
                        Integer.parseInt(told[2]), told[3].charAt(0) - '0', told[3].charAt(1) - '0',
                        told[3].endsWith("o")));
            }
        }
        return value(5);
    }

    int undo() {
        state(!saved.isEmpty());
        w = saved.removeLast();
        return saved.size();
    }

    long digest() {
        List<Long> values = new ArrayList<>();
        values.add((long) text.length());
        for (int i = 0; i <= 7; i++) {
            values.add((long) value(i));
        }
        for (int r = 1; r <= 3; r++) {
            values.add((long) luck(r, false));
            values.add((long) luck(r, true));
        }
        for (int t = 0; t < 3; t++) {
            for (int i = 0; i <= 3; i++) {
                values.add((long) table(t, i));
            }
            for (int e = 0; e < table(t, 1); e++) {
                for (int i = 0; i <= 7; i++) {
                    values.add((long) entry(t, e, i));
                }
            }
            List<End> ends = ends(t);
            for (int r = 0; r <= 3; r++) {
                values.add((long) rare(ends, r));
            }
        }
        for (int item = 0; item < 16; item++) {
            values.add((long) often(item));
        }
        for (int i = 0; find(i, 0) != -1; i++) {
            for (int what = 0; what <= 2; what++) {
                values.add((long) find(i, what));
            }
        }
        values.add((long) saved.size());
        long h = 3361;
        for (long v : values) {
            h = 31 * h + v;
        }
        return h;
    }
}
