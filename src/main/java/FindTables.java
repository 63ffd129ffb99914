import java.util.Arrays;

/** Tables of finds in a game; ../shared/DOC.md says what each call promises. */
public final class FindTables {
    public static final int NONE = -1;

    private static final int TABLES = 3;
    private static final int MOST_DRAWS = 2;
    private static final int MOST_ENTRIES = 6;
    private static final int PLACES = TABLES * MOST_ENTRIES;
    private static final int ITEMS = 16;
    private static final int LAST_WHAT = ITEMS + TABLES - 1;
    private static final int MOST_WEIGHT = 1000;
    private static final int MOST_RARITY = 3;
    private static final int RARITIES = MOST_RARITY + 1;
    private static final int MOST_GROUP = 3;
    private static final int GROUPS = MOST_GROUP + 1;
    private static final int MOST_COUNTER = 200;
    private static final int MOST_LIMIT = 200;
    private static final int MOST_RISE = 50;
    private static final int MOST_GIVEN_S = 999999;
    private static final int MOST_TIMES = 200;
    private static final int MOST_KEPT = 20;
    private static final int MOST_FORESEEN = 300;
    private static final int MOST_TEXT = 160;
    private static final int MOST_BYTE = 127;
    private static final int MOST_SAVED = 4;
    private static final int VALUES = 8;
    private static final int ENTRY_VALUES = 8;
    private static final int TABLE_VALUES = 4;
    private static final int FIND_VALUES = 3;
    private static final int SYNTAX_ERROR = -10;
    private static final int DIGEST_START = 3361;
    private static final int DIGEST_FACTOR = 31;
    private static final int EUCLID_STEPS = 64;
    private static final long WHOLE_SHARE = 1000000000L;

    private final State now;
    private final State trial;
    private final Saved saved;
    private final Text text;
    private final Tables readTables;
    private final Opening opening;
    private final Draw firstDraw;
    private final Chances chances;
    private final Chances trialChances;

    public FindTables() {
        now = new State();
        trial = new State();
        saved = new Saved();
        text = new Text();
        readTables = new Tables();
        opening = new Opening();
        firstDraw = new Draw();
        chances = new Chances();
        trialChances = new Chances();
    }

    // ---- tables

    public int setDraws(int table, int draws) throws IndexOutOfBoundsException, IllegalArgumentException {
        needTable(table);
        needRange(draws, 1, MOST_DRAWS);
        saveState();
        return exchange(now.tables.draws, table, draws);
    }

    public int addEntry(int table, int what, int weight, int rarity, int group, boolean once)
            throws IndexOutOfBoundsException, IllegalArgumentException, IllegalStateException {
        needTable(table);
        needRange(what, 0, LAST_WHAT);
        if (isLowLink(table, what)) {
            throw new IllegalArgumentException("a link leads to a higher table");
        }
        needRange(weight, 1, MOST_WEIGHT);
        needRange(rarity, 0, greatestRarity(what));
        needRange(group, 0, MOST_GROUP);
        if (now.tables.countOf(table) >= MOST_ENTRIES) {
            throw new IllegalStateException("the table is full");
        }
        saveState();
        return now.tables.addTo(table, what, weight, rarity, group, once);
    }

    public int removeEntry(int table, int entry) throws IndexOutOfBoundsException {
        needEntry(table, entry);
        saveState();
        return now.tables.removeFrom(table, entry);
    }

    public int setWeight(int table, int entry, int weight)
            throws IndexOutOfBoundsException, IllegalArgumentException {
        needEntry(table, entry);
        needRange(weight, 1, MOST_WEIGHT);
        saveState();
        return exchange(now.tables.weights, placeOf(table, entry), weight);
    }

    public int restore() {
        saveState();
        return now.tables.unspend();
    }

    public int entry(int table, int entry, int what) throws IndexOutOfBoundsException, IllegalArgumentException {
        needEntry(table, entry);
        needRange(what, 0, ENTRY_VALUES - 1);
        return tellEntry(table, entry, what);
    }

    public int table(int table, int what) throws IndexOutOfBoundsException, IllegalArgumentException {
        needTable(table);
        needRange(what, 0, TABLE_VALUES - 1);
        return tellTable(table, what);
    }

    // ---- luck

    public int setCounter(int rarity, int value) throws IndexOutOfBoundsException, IllegalArgumentException {
        needCountedRarity(rarity);
        needRange(value, 0, MOST_COUNTER);
        saveState();
        return exchange(now.luck.counters, rarity, value);
    }

    public int setLimit(int rarity, int value) throws IndexOutOfBoundsException, IllegalArgumentException {
        needCountedRarity(rarity);
        needRange(value, 0, MOST_LIMIT);
        saveState();
        return exchange(now.luck.limits, rarity, value);
    }

    public int setRise(int rise, int s) throws IllegalArgumentException {
        needRange(rise, 0, MOST_RISE);
        if (s != NONE) {
            needRange(s, 0, MOST_GIVEN_S);
        }
        saveState();
        int previous = now.luck.rise;
        now.luck.rise = rise;
        if (s != NONE) {
            now.luck.s = s;
        }
        return previous;
    }

    public int luck(int rarity, boolean limit) throws IndexOutOfBoundsException {
        needCountedRarity(rarity);
        return at(limit ? now.luck.limits : now.luck.counters, rarity);
    }

    public int value(int what) throws IllegalArgumentException {
        needRange(what, 0, VALUES - 1);
        return tellValue(what);
    }

    // ---- openings

    public int open(int table) throws IndexOutOfBoundsException {
        needTable(table);
        saveState();
        return opening.run(now, table);
    }

    public int openOften(int table, int times) throws IndexOutOfBoundsException, IllegalArgumentException {
        needTable(table);
        needRange(times, 1, MOST_TIMES);
        saveState();
        int found = 0;
        for (int i = 0; i < times; i++) {
            found += opening.run(now, table);
        }
        return found;
    }

    public int find(int index, int what) throws IllegalArgumentException {
        if (index < 0) {
            throw new IllegalArgumentException("the index is negative");
        }
        needRange(what, 0, FIND_VALUES - 1);
        return now.finds.tell(index, what);
    }

    public int often(int item) throws IndexOutOfBoundsException {
        needItem(item);
        return at(now.finds.times, item);
    }

    // ---- chances

    public int chance(int table, int entry, boolean below) throws IndexOutOfBoundsException {
        needEntry(table, entry);
        prepareFirstDraw(table);
        int weight = firstDraw.weightAt(placeOf(table, entry));
        int sum = firstDraw.sumOf(table);
        int divisor = greatestDivisor(weight, sum);
        if (weight <= 0 || divisor <= 0) {
            return below ? 1 : 0;
        }
        return below ? sum / divisor : weight / divisor;
    }

    public int chanceOf(int table, int item) throws IndexOutOfBoundsException {
        needTable(table);
        needItem(item);
        chances.reckonFor(now, table);
        return (int) chances.ofItem(item);
    }

    public int chanceRare(int table, int rarity) throws IndexOutOfBoundsException, IllegalArgumentException {
        needTable(table);
        needRange(rarity, 0, MOST_RARITY);
        chances.reckonFor(now, table);
        return (int) chances.ofRarity(rarity);
    }

    public long meanFinds(int table) throws IndexOutOfBoundsException {
        needTable(table);
        chances.reckonFor(now, table);
        return chances.mean;
    }

    public double luckyShare() {
        int openings = now.finds.openings;
        if (openings <= 0) {
            return 0.0;
        }
        return (double) now.finds.differentOpenings() / (double) openings;
    }

    // ---- what if

    public int soonest(int table, int item) throws IndexOutOfBoundsException {
        needTable(table);
        needItem(item);
        trial.copyFrom(now);
        int before = at(now.finds.times, item);
        for (int i = 1; i <= MOST_FORESEEN; i++) {
            opening.run(trial, table);
            if (at(trial.finds.times, item) > before) {
                return i;
            }
        }
        return NONE;
    }

    public int bestDouble(int table, int item) throws IndexOutOfBoundsException {
        needTable(table);
        needItem(item);
        trial.copyFrom(now);
        int best = NONE;
        long greatest = NONE;
        for (int entry = 0; entry < now.tables.countOf(table); entry++) {
            int place = placeOf(table, entry);
            int weight = at(now.tables.weights, place);
            put(trial.tables.weights, place, Math.min(MOST_WEIGHT, 2 * weight));
            trialChances.forget();
            trialChances.reckonFor(trial, table);
            put(trial.tables.weights, place, weight);
            if (trialChances.ofItem(item) > greatest) {
                greatest = trialChances.ofItem(item);
                best = entry;
            }
        }
        return best;
    }

    // ---- text

    public int append(int value) throws IllegalArgumentException, IllegalStateException {
        needRange(value, 0, MOST_BYTE);
        if (text.length >= MOST_TEXT) {
            throw new IllegalStateException("the text is full");
        }
        return text.add(value);
    }

    public int clearText() {
        int length = text.length;
        text.length = 0;
        return length;
    }

    public int parse() {
        int fault = text.readInto(readTables);
        if (fault != NONE) {
            return SYNTAX_ERROR - fault;
        }
        saveState();
        now.tables.copyFrom(readTables);
        return now.tables.countAll();
    }

    // ---- state

    public int undo() throws IllegalStateException {
        if (saved.count <= 0) {
            throw new IllegalStateException("no state is saved");
        }
        saved.takeInto(now);
        chances.forget();
        return saved.count;
    }

    public long digest() {
        long h = mix(DIGEST_START, text.length);
        for (int what = 0; what < VALUES; what++) {
            h = mix(h, tellValue(what));
        }
        for (int rarity = 1; rarity <= MOST_RARITY; rarity++) {
            h = mix(h, at(now.luck.counters, rarity));
            h = mix(h, at(now.luck.limits, rarity));
        }
        for (int table = 0; table < TABLES; table++) {
            h = mixTable(h, table);
            chances.reckonFor(now, table);
            for (int rarity = 0; rarity <= MOST_RARITY; rarity++) {
                h = mix(h, chances.ofRarity(rarity));
            }
        }
        for (int item = 0; item < ITEMS; item++) {
            h = mix(h, at(now.finds.times, item));
        }
        for (int index = 0; index < now.finds.kept(); index++) {
            for (int what = 0; what < FIND_VALUES; what++) {
                h = mix(h, now.finds.tell(index, what));
            }
        }
        return mix(h, saved.count);
    }

    // ---- what the calls are made of

    private static void needTable(int table) {
        if (table < 0 || table >= TABLES) {
            throw new IndexOutOfBoundsException("no such table");
        }
    }

    private void needEntry(int table, int entry) {
        needTable(table);
        if (entry < 0 || entry >= now.tables.countOf(table)) {
            throw new IndexOutOfBoundsException("no such entry");
        }
    }

    private static void needItem(int item) {
        if (item < 0 || item >= ITEMS) {
            throw new IndexOutOfBoundsException("no such item");
        }
    }

    private static void needCountedRarity(int rarity) {
        if (rarity < 1 || rarity > MOST_RARITY) {
            throw new IndexOutOfBoundsException("no such rarity");
        }
    }

    private static void needRange(int value, int least, int greatest) {
        if (value < least || value > greatest) {
            throw new IllegalArgumentException("out of range");
        }
    }

    /** Comes ahead of every change of the state, so that reckoned chances never outlive it. */
    private void saveState() {
        saved.keep(now);
        chances.forget();
    }

    private void prepareFirstDraw(int table) {
        firstDraw.prepare(now, table, now.tables.spentBits(), NONE);
    }

    private int tellEntry(int table, int entry, int what) {
        int place = placeOf(table, entry);
        switch (what) {
            case 0:
                return at(now.tables.whats, place);
            case 1:
                return at(now.tables.weights, place);
            case 2:
                return at(now.tables.rarities, place);
            case 3:
                return at(now.tables.groups, place);
            case 4:
                return at(now.tables.onces, place);
            case 5:
                return at(now.tables.spents, place);
            case 6:
                return now.presentWeight(place);
            default:
                prepareFirstDraw(table);
                return firstDraw.weightAt(place) > 0 ? 1 : 0;
        }
    }

    private int tellTable(int table, int what) {
        switch (what) {
            case 0:
                return at(now.tables.draws, table);
            case 1:
                return now.tables.countOf(table);
            case 2:
                prepareFirstDraw(table);
                return firstDraw.wanted;
            default:
                prepareFirstDraw(table);
                return firstDraw.sumOf(table);
        }
    }

    private int tellValue(int what) {
        switch (what) {
            case 0:
                return now.luck.rise;
            case 1:
                return now.luck.s;
            case 2:
                return now.finds.openings;
            case 3:
                return now.finds.total;
            case 4:
                return now.finds.kept();
            case 5:
                return now.tables.countAll();
            case 6:
                return now.tables.countSpent();
            default:
                return now.finds.differentItems();
        }
    }

    private long mixTable(long h, int table) {
        long mixed = h;
        for (int what = 0; what < TABLE_VALUES; what++) {
            mixed = mix(mixed, tellTable(table, what));
        }
        for (int entry = 0; entry < now.tables.countOf(table); entry++) {
            for (int what = 0; what < ENTRY_VALUES; what++) {
                mixed = mix(mixed, tellEntry(table, entry, what));
            }
        }
        return mixed;
    }

    private static long mix(long h, long v) {
        return DIGEST_FACTOR * h + v;
    }

    /** The greatest number that divides both; 0 if both are 0. */
    private static int greatestDivisor(int a, int b) {
        int divisor = a;
        int rest = b;
        for (int i = 0; i < EUCLID_STEPS && rest > 0; i++) {
            int next = divisor % rest;
            divisor = rest;
            rest = next;
        }
        return divisor;
    }

    private static boolean isLink(int what) {
        return what >= ITEMS;
    }

    private static int linkedTable(int what) {
        return what - ITEMS;
    }

    private static boolean isLowLink(int table, int what) {
        return isLink(what) && linkedTable(what) <= table;
    }

    private static int greatestRarity(int what) {
        return isLink(what) ? 0 : MOST_RARITY;
    }

    /** Where an entry stands in the rows that hold the entries of all tables. */
    private static int placeOf(int table, int entry) {
        return table * MOST_ENTRIES + entry;
    }

    private static int spentBit(int place) {
        return 1 << place;
    }

    /** Stands above all spent bits, so that one int tells both what is spent and which groups were drawn. */
    private static int groupBit(int table, int group) {
        return group > 0 ? 1 << (PLACES + table * GROUPS + group) : 0;
    }

    private static int at(int[] row, int index) {
        return index >= 0 && index < row.length ? row[index] : 0;
    }

    private static void put(int[] row, int index, int value) {
        if (index >= 0 && index < row.length) {
            row[index] = value;
        }
    }

    private static long at(long[] row, int index) {
        return index >= 0 && index < row.length ? row[index] : 0L;
    }

    private static int exchange(int[] row, int index, int value) {
        int previous = at(row, index);
        put(row, index, value);
        return previous;
    }

    private static void copyRow(int[] from, int[] to) {
        System.arraycopy(from, 0, to, 0, Math.min(from.length, to.length));
    }

    /** The draws and the entries of all tables. */
    private static final class Tables {
        private final int[] draws = {1, 1, 1};
        private final int[] counts = new int[TABLES];
        private final int[] whats = new int[PLACES];
        private final int[] weights = new int[PLACES];
        private final int[] rarities = new int[PLACES];
        private final int[] groups = new int[PLACES];
        private final int[] onces = new int[PLACES];
        private final int[] spents = new int[PLACES];

        void makeEmpty() {
            Arrays.fill(draws, 1);
            Arrays.fill(counts, 0);
        }

        void copyFrom(Tables other) {
            copyRow(other.draws, draws);
            copyRow(other.counts, counts);
            copyRow(other.whats, whats);
            copyRow(other.weights, weights);
            copyRow(other.rarities, rarities);
            copyRow(other.groups, groups);
            copyRow(other.onces, onces);
            copyRow(other.spents, spents);
        }

        int countOf(int table) {
            return at(counts, table);
        }

        int countAll() {
            int sum = 0;
            for (int table = 0; table < TABLES; table++) {
                sum += countOf(table);
            }
            return sum;
        }

        int addTo(int table, int what, int weight, int rarity, int group, boolean once) {
            int entry = countOf(table);
            int place = placeOf(table, entry);
            put(whats, place, what);
            put(weights, place, weight);
            put(rarities, place, rarity);
            put(groups, place, group);
            put(onces, place, once ? 1 : 0);
            put(spents, place, 0);
            put(counts, table, entry + 1);
            return entry;
        }

        int removeFrom(int table, int entry) {
            int left = countOf(table) - 1;
            for (int i = entry; i < left; i++) {
                moveEntry(placeOf(table, i + 1), placeOf(table, i));
            }
            put(counts, table, left);
            return left;
        }

        private void moveEntry(int from, int to) {
            put(whats, to, at(whats, from));
            put(weights, to, at(weights, from));
            put(rarities, to, at(rarities, from));
            put(groups, to, at(groups, from));
            put(onces, to, at(onces, from));
            put(spents, to, at(spents, from));
        }

        int countSpent() {
            return Integer.bitCount(spentBits());
        }

        int spentBits() {
            int bits = 0;
            for (int table = 0; table < TABLES; table++) {
                for (int entry = 0; entry < countOf(table); entry++) {
                    int place = placeOf(table, entry);
                    if (at(spents, place) != 0) {
                        bits |= spentBit(place);
                    }
                }
            }
            return bits;
        }

        int unspend() {
            int spent = countSpent();
            Arrays.fill(spents, 0);
            return spent;
        }

        /** The bits of which none may be set if the entry is to be drawn. */
        int stopBits(int table, int place) {
            if (place < 0 || place >= PLACES) {
                return 0;
            }
            return spentBit(place) | groupBit(table, groups[place]);
        }

        /** The bits that are set when the entry has been drawn. */
        int drawnBits(int table, int place) {
            if (place < 0 || place >= PLACES) {
                return 0;
            }
            int spent = onces[place] != 0 ? spentBit(place) : 0;
            return spent | groupBit(table, groups[place]);
        }

        void spendIfOnce(int place) {
            put(spents, place, at(onces, place));
        }
    }

    /** Counters of bad luck, their limits, and the number from which all chance comes. */
    private static final class Luck {
        private static final long FACTOR = 1103515245L;
        private static final long SUMMAND = 12345L;
        private static final long MODULUS = 2147483648L;
        private static final int LOW_PART = 65536;
        private static final int HUNDRED = 100;

        private final int[] counters = new int[RARITIES];
        private final int[] limits = new int[RARITIES];
        private int rise;
        private int s = 1;

        void copyFrom(Luck other) {
            copyRow(other.counters, counters);
            copyRow(other.limits, limits);
            rise = other.rise;
            s = other.s;
        }

        int numberBelow(int n) {
            s = (int) ((FACTOR * s + SUMMAND) % MODULUS);
            return n > 0 ? s / LOW_PART % n : 0;
        }

        int risen(int weight, int rarity) {
            if (rarity < 1 || rarity > MOST_RARITY) {
                return weight;
            }
            return weight * (HUNDRED + rise * counters[rarity]) / HUNDRED;
        }

        boolean isDue(int rarity) {
            if (rarity < 1 || rarity > MOST_RARITY) {
                return false;
            }
            return limits[rarity] > 0 && counters[rarity] + 1 >= limits[rarity];
        }

        void countOpening(int bestRarity) {
            for (int rarity = 1; rarity <= MOST_RARITY; rarity++) {
                int next = bestRarity >= rarity ? 0 : at(counters, rarity) + 1;
                put(counters, rarity, Math.min(MOST_COUNTER, next));
            }
        }
    }

    /** What has been found so far; the latest finds stand in rings. */
    private static final class Finds {
        private final int[] times = new int[ITEMS];
        private final int[] items = new int[MOST_KEPT];
        private final int[] rarities = new int[MOST_KEPT];
        private final int[] numbers = new int[MOST_KEPT];
        private int openings;
        private int total;

        void copyFrom(Finds other) {
            copyRow(other.times, times);
            copyRow(other.items, items);
            copyRow(other.rarities, rarities);
            copyRow(other.numbers, numbers);
            openings = other.openings;
            total = other.total;
        }

        void record(int item, int rarity) {
            int slot = Math.floorMod(total, MOST_KEPT);
            put(items, slot, item);
            put(rarities, slot, rarity);
            put(numbers, slot, openings);
            put(times, item, at(times, item) + 1);
            total++;
        }

        int kept() {
            return Math.min(MOST_KEPT, total);
        }

        int tell(int index, int what) {
            if (index >= kept()) {
                return NONE;
            }
            int slot = Math.floorMod(total - 1 - index, MOST_KEPT);
            switch (what) {
                case 0:
                    return at(items, slot);
                case 1:
                    return at(rarities, slot);
                default:
                    return at(numbers, slot);
            }
        }

        int differentItems() {
            int different = 0;
            for (int item = 0; item < ITEMS; item++) {
                if (at(times, item) > 0) {
                    different++;
                }
            }
            return different;
        }

        /** The numbers of openings never rise from a find to the one before it: equal ones stand together. */
        int differentOpenings() {
            int different = 0;
            int previous = NONE;
            for (int index = 0; index < kept(); index++) {
                int number = tell(index, 2);
                if (number != previous) {
                    different++;
                }
                previous = number;
            }
            return different;
        }
    }

    /** All that undo brings back. */
    private static final class State {
        private final Tables tables = new Tables();
        private final Luck luck = new Luck();
        private final Finds finds = new Finds();

        void copyFrom(State other) {
            tables.copyFrom(other.tables);
            luck.copyFrom(other.luck);
            finds.copyFrom(other.finds);
        }

        int presentWeight(int place) {
            if (place < 0 || place >= PLACES) {
                return 0;
            }
            return luck.risen(tables.weights[place], tables.rarities[place]);
        }
    }

    /** The saved states, in a ring: when it is full, the next one takes the place of the oldest. */
    private static final class Saved {
        private final State[] states = new State[MOST_SAVED];
        private int oldest;
        private int count;

        Saved() {
            for (int i = 0; i < states.length; i++) {
                states[i] = new State();
            }
        }

        void keep(State now) {
            State slot = slotBehind(count);
            if (slot != null) {
                slot.copyFrom(now);
            }
            if (count < MOST_SAVED) {
                count++;
            } else {
                oldest = (oldest + 1) % MOST_SAVED;
            }
        }

        void takeInto(State now) {
            State latest = slotBehind(count - 1);
            if (latest != null) {
                now.copyFrom(latest);
            }
            count--;
        }

        private State slotBehind(int steps) {
            int index = Math.floorMod(oldest + steps, MOST_SAVED);
            return index >= 0 && index < states.length ? states[index] : null;
        }
    }

    /**
     * What one draw from a table can bring. It holds for the tables behind links too: they are
     * higher, and what is drawn on the way to them changes only the lower tables.
     */
    private static final class Draw {
        /** The present weights; 0 where an entry cannot be drawn. */
        private final int[] weights = new int[PLACES];
        private final int[] sums = new int[TABLES];
        private int wanted;

        /** gone has the bits of what is spent and of the groups drawn, bestRarity is NONE if nothing was found yet. */
        void prepare(State state, int table, int gone, int bestRarity) {
            for (int rarity = MOST_RARITY; rarity >= 1 && rarity > bestRarity; rarity--) {
                if (state.luck.isDue(rarity)) {
                    weigh(state, table, gone, rarity);
                    if (sumOf(table) > 0) {
                        wanted = rarity;
                        return;
                    }
                }
            }
            weigh(state, table, gone, 0);
            wanted = 0;
        }

        private void weigh(State state, int lowestTable, int gone, int leastRarity) {
            for (int table = TABLES - 1; table >= lowestTable && table >= 0; table--) {
                int first = placeOf(table, 0);
                int end = Math.min(PLACES, first + state.tables.countOf(table));
                int sum = 0;
                for (int place = first; place < end; place++) {
                    boolean free = (gone & state.tables.stopBits(table, place)) == 0;
                    boolean can = free && reaches(state.tables, place, leastRarity);
                    weights[place] = can ? state.presentWeight(place) : 0;
                    sum += weights[place];
                }
                sums[table] = sum;
            }
        }

        private boolean reaches(Tables tables, int place, int leastRarity) {
            if (place < 0 || place >= PLACES) {
                return false;
            }
            int what = tables.whats[place];
            return isLink(what) ? sumOf(linkedTable(what)) > 0 : tables.rarities[place] >= leastRarity;
        }

        int weightAt(int place) {
            return at(weights, place);
        }

        int sumOf(int table) {
            return table >= 0 && table < TABLES ? sums[table] : 0;
        }

        /** The entry with which the sum of the weights first becomes greater than the number. */
        int entryFor(int table, int number, int count) {
            int sum = 0;
            for (int entry = 0; entry < count; entry++) {
                sum += weightAt(placeOf(table, entry));
                if (sum > number) {
                    return entry;
                }
            }
            return NONE;
        }
    }

    /** Opens tables: changes the state by what is found. */
    private static final class Opening {
        private final Draw draw = new Draw();
        private int gone;
        private int bestRarity;
        private int found;

        int run(State state, int table) {
            gone = state.tables.spentBits();
            bestRarity = NONE;
            found = 0;
            state.finds.openings++;
            for (int i = 0; i < at(state.tables.draws, table) && i < MOST_DRAWS; i++) {
                drawItem(state, table);
            }
            state.luck.countOpening(bestRarity);
            return found;
        }

        private void drawItem(State state, int top) {
            draw.prepare(state, top, gone, bestRarity);
            int table = top;
            for (int level = 0; level < TABLES && draw.sumOf(table) > 0; level++) {
                int number = state.luck.numberBelow(draw.sumOf(table));
                int entry = draw.entryFor(table, number, state.tables.countOf(table));
                if (entry == NONE) {
                    return;
                }
                int place = placeOf(table, entry);
                int what = at(state.tables.whats, place);
                gone |= state.tables.drawnBits(table, place);
                state.tables.spendIfOnce(place);
                if (!isLink(what)) {
                    takeItem(state, what, at(state.tables.rarities, place));
                    return;
                }
                table = linkedTable(what);
            }
        }

        private void takeItem(State state, int item, int rarity) {
            state.finds.record(item, rarity);
            bestRarity = Math.max(bestRarity, rarity);
            found++;
        }
    }

    /** Goes through all openings of a table and adds up their shares; kept until it is told to forget. */
    private static final class Chances {
        private final Draw first = new Draw();
        private final Draw second = new Draw();
        private final int[] way = new int[MOST_DRAWS];
        private final long[] itemShares = new long[ITEMS];
        private final long[] bestShares = new long[RARITIES];
        private long mean;
        private int top = NONE;

        void forget() {
            top = NONE;
        }

        void reckonFor(State state, int table) {
            if (top == table) {
                return;
            }
            top = table;
            mean = 0;
            Arrays.fill(itemShares, 0L);
            Arrays.fill(bestShares, 0L);
            goOn(state, 0, state.tables.spentBits(), NONE, WHOLE_SHARE);
        }

        long ofItem(int item) {
            return at(itemShares, item);
        }

        long ofRarity(int rarity) {
            long sum = 0;
            for (int best = rarity; best <= MOST_RARITY; best++) {
                sum += at(bestShares, best);
            }
            return sum;
        }

        /** Each call has one draw more behind it, of at most two. */
        private void goOn(State state, int done, int gone, int bestRarity, long share) {
            if (done >= at(state.tables.draws, top) || done >= MOST_DRAWS) {
                endOpening(done, bestRarity, share);
                return;
            }
            Draw draw = done == 0 ? first : second;
            draw.prepare(state, top, gone, bestRarity);
            if (draw.sumOf(top) > 0) {
                handOn(state, top, done, gone, bestRarity, share);
            } else {
                put(way, done, NONE);
                goOn(state, done + 1, gone, bestRarity, share);
            }
        }

        /** Calls itself only for a higher table. */
        private void handOn(State state, int table, int done, int gone, int bestRarity, long share) {
            Tables tables = state.tables;
            Draw draw = done == 0 ? first : second;
            long sum = draw.sumOf(table);
            if (table < 0 || sum <= 0) {
                return;
            }
            int start = placeOf(table, 0);
            int end = Math.min(PLACES, start + tables.countOf(table));
            for (int place = start; place < end; place++) {
                int weight = draw.weights[place];
                if (weight <= 0) {
                    continue;
                }
                long part = share * weight / sum;
                int goneThen = gone | tables.drawnBits(table, place);
                int what = tables.whats[place];
                if (!isLink(what)) {
                    put(way, done, what);
                    goOn(state, done + 1, goneThen, Math.max(bestRarity, tables.rarities[place]), part);
                } else if (linkedTable(what) > table) {
                    handOn(state, linkedTable(what), done, goneThen, bestRarity, part);
                }
            }
        }

        private void endOpening(int done, int bestRarity, long share) {
            for (int i = 0; i < done && i < MOST_DRAWS; i++) {
                int item = way[i];
                if (item < 0 || item >= ITEMS) {
                    continue;
                }
                mean += share;
                if (i == 0 || way[i - 1] != item) {
                    itemShares[item] += share;
                }
            }
            if (bestRarity >= 0 && bestRarity <= MOST_RARITY) {
                bestShares[bestRarity] += share;
            }
        }
    }

    /** The table text and how it is read; the reading goes no further once it has met a fault. */
    private static final class Text {
        private static final int WHAT_DIGITS = 2;
        private static final int WEIGHT_DIGITS = 4;
        private static final int END = -1;

        private final byte[] bytes = new byte[MOST_TEXT];
        private int length;
        private int position;
        private int fault;

        int add(int value) {
            if (length >= 0 && length < bytes.length) {
                bytes[length] = (byte) value;
                length++;
            }
            return length;
        }

        /** The syntax error position; NONE if there is none. */
        int readInto(Tables tables) {
            tables.makeEmpty();
            position = 0;
            fault = NONE;
            for (int i = 0; i < MOST_TEXT && position < length && fault == NONE; i++) {
                readPart(tables);
            }
            return fault;
        }

        private void readPart(Tables tables) {
            int sign = peek();
            if (sign == 'd') {
                position++;
                readDraws(tables);
            } else if (sign == 'e') {
                position++;
                readEntry(tables);
            } else {
                fault = position;
            }
        }

        private void readDraws(Tables tables) {
            int table = readDigit(0, TABLES - 1);
            int draws = readDigit(1, MOST_DRAWS);
            readSign(';');
            if (fault == NONE) {
                put(tables.draws, table, draws);
            }
        }

        private void readEntry(Tables tables) {
            int table = readTableWithRoom(tables);
            readSign(',');
            int what = readWhat(table);
            readSign(',');
            int weight = readNumber(WEIGHT_DIGITS, 1, MOST_WEIGHT);
            readSign(',');
            int rarity = readDigit(0, greatestRarity(what));
            int group = readDigit(0, MOST_GROUP);
            boolean once = readOnce();
            readSign(';');
            if (fault == NONE) {
                tables.addTo(table, what, weight, rarity, group, once);
            }
        }

        private int readTableWithRoom(Tables tables) {
            int first = position;
            int table = readDigit(0, TABLES - 1);
            if (fault == NONE && tables.countOf(table) >= MOST_ENTRIES) {
                fault = first;
            }
            return table;
        }

        private int readWhat(int table) {
            int first = position;
            int what = readNumber(WHAT_DIGITS, 0, LAST_WHAT);
            if (fault == NONE && isLowLink(table, what)) {
                fault = first;
            }
            return what;
        }

        private boolean readOnce() {
            if (fault != NONE || peek() != 'o') {
                return false;
            }
            position++;
            return true;
        }

        private void readSign(char sign) {
            if (fault != NONE) {
                return;
            }
            if (peek() == sign) {
                position++;
            } else {
                fault = position;
            }
        }

        private int readDigit(int least, int greatest) {
            if (fault != NONE) {
                return least;
            }
            int digit = peek() - '0';
            if (digit < least || digit > greatest) {
                fault = position;
                return least;
            }
            position++;
            return digit;
        }

        private int readNumber(int mostDigits, int least, int greatest) {
            if (fault != NONE) {
                return least;
            }
            int first = position;
            int number = 0;
            for (int i = 0; i < mostDigits && isDigit(peek()); i++) {
                number = number * 10 + peek() - '0';
                position++;
            }
            if (position == first || isDigit(peek())) {
                fault = position;
            } else if (number < least || number > greatest) {
                fault = first;
            }
            return number;
        }

        private static boolean isDigit(int sign) {
            return sign >= '0' && sign <= '9';
        }

        private int peek() {
            return position >= 0 && position < length && position < bytes.length ? bytes[position] : END;
        }
    }
}
