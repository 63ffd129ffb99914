/** Promises 9 to 13. */
public final class LuckTest {
    private static final Class<IndexOutOfBoundsException> INDEX = IndexOutOfBoundsException.class;
    private static final Class<IllegalArgumentException> ARGUMENT = IllegalArgumentException.class;
    private static final Check check = new Check("LuckTest");

    public static void main(String[] args) {
        promise9SetCounter();
        promise10SetLimit();
        promise11SetRise();
        promise12Luck();
        promise13Value();
        check.finish();
    }

    private static void promise9SetCounter() {
        FindTables x = new FindTables();
        check.due("9: rarity 1", x.setCounter(1, 200), 0);
        check.due("9: rarity 2", x.setCounter(2, 7), 0);
        check.due("9: rarity 3", x.setCounter(3, 9), 0);
        check.due("9: previous", x.setCounter(1, 0), 200);
        check.due("9: told", x.luck(1, false) * 100 + x.luck(2, false) * 10 + x.luck(3, false), 79);
        check.due("9: limits stay", x.luck(1, true) + x.luck(2, true) + x.luck(3, true), 0);
        check.due("9: undoable", x.undo(), 3);
        check.due("9: the same value", x.setCounter(3, 9), 9);
        check.due("9: undoable too", x.undo(), 3);
        check.due("9: undone", x.luck(1, false), 200);
        check.dueThrow("9: rarity 0", x, INDEX, () -> x.setCounter(0, 1));
        check.dueThrow("9: rarity 4, value wrong too", x, INDEX, () -> x.setCounter(4, 201));
        check.dueThrow("9: rarity -1", x, INDEX, () -> x.setCounter(-1, -1));
        check.dueThrow("9: value -1", x, ARGUMENT, () -> x.setCounter(3, -1));
        check.dueThrow("9: value 201", x, ARGUMENT, () -> x.setCounter(3, 201));
    }

    private static void promise10SetLimit() {
        FindTables x = new FindTables();
        check.due("10: rarity 1", x.setLimit(1, 200), 0);
        check.due("10: rarity 2", x.setLimit(2, 7), 0);
        check.due("10: rarity 3", x.setLimit(3, 9), 0);
        check.due("10: previous", x.setLimit(1, 0), 200);
        check.due("10: told", x.luck(1, true) * 100 + x.luck(2, true) * 10 + x.luck(3, true), 79);
        check.due("10: counters stay", x.luck(1, false) + x.luck(2, false) + x.luck(3, false), 0);
        check.due("10: undoable", x.undo(), 3);
        check.due("10: the same value", x.setLimit(3, 9), 9);
        check.due("10: undoable too", x.undo(), 3);
        check.due("10: undone", x.luck(1, true), 200);
        check.dueThrow("10: rarity 0", x, INDEX, () -> x.setLimit(0, 1));
        check.dueThrow("10: rarity 4, value wrong too", x, INDEX, () -> x.setLimit(4, 201));
        check.dueThrow("10: rarity -1", x, INDEX, () -> x.setLimit(-1, -1));
        check.dueThrow("10: value -1", x, ARGUMENT, () -> x.setLimit(3, -1));
        check.dueThrow("10: value 201", x, ARGUMENT, () -> x.setLimit(3, 201));
    }

    private static void promise11SetRise() {
        FindTables x = new FindTables();
        check.due("11: first", x.setRise(50, 999999), 0);
        check.due("11: rise", x.value(0), 50);
        check.due("11: s", x.value(1), 999999);
        check.due("11: s as it is", x.setRise(0, -1), 50);
        check.due("11: rise 0", x.value(0), 0);
        check.due("11: s stays", x.value(1), 999999);
        check.due("11: s 0", x.setRise(3, 0), 0);
        check.due("11: told", x.value(1), 0);
        x.addEntry(0, 1, 1, 0, 0, false);
        x.open(0);
        check.due("11: s after 0", x.value(1), 12345);
        x.undo();
        x.undo();
        check.due("11: undoable", x.undo(), 1);
        check.due("11: s undone", x.value(1), 999999);
        check.due("11: rise undone", x.value(0), 0);
        FindTables y = Check.tables("e0,1,1,00;");
        y.setRise(50, 999999);
        y.open(0);
        check.due("11: s above what can be set", y.value(1), 1751684876);
        check.due("11: as it is", y.setRise(49, -1), 50);
        check.due("11: it stays", y.value(1), 1751684876);
        check.due("11: least s", y.setRise(49, 0), 49);
        y.undo();
        check.due("11: undone to what was above", y.value(1), 1751684876);
        check.dueThrow("11: rise -1", x, ARGUMENT, () -> x.setRise(-1, 1));
        check.dueThrow("11: rise 51", x, ARGUMENT, () -> x.setRise(51, 1));
        check.dueThrow("11: s -2", x, ARGUMENT, () -> x.setRise(1, -2));
        check.dueThrow("11: s 1000000", x, ARGUMENT, () -> x.setRise(1, 1000000));
    }

    private static void promise12Luck() {
        FindTables x = new FindTables();
        for (int r = 1; r <= 3; r++) {
            x.setCounter(r, 10 + r);
            x.setLimit(r, 20 + r);
        }
        for (int r = 1; r <= 3; r++) {
            check.due("12: counter " + r, x.luck(r, false), 10 + r);
            check.due("12: limit " + r, x.luck(r, true), 20 + r);
        }
        check.dueThrow("12: rarity 0", x, INDEX, () -> x.luck(0, false));
        check.dueThrow("12: rarity 4", x, INDEX, () -> x.luck(4, true));
        check.dueThrow("12: rarity -1", x, INDEX, () -> x.luck(Integer.MIN_VALUE, true));
    }

    private static void promise13Value() {
        FindTables x = Check.tables("d02;e0,3,1,00o;e0,5,1,00;e2,5,1,00o;");
        x.setRise(9, 1);
        check.due("13: entries of all tables", x.value(5), 3);
        check.due("13: opened, two draws", x.open(0), 2);
        check.due("13: opened, one draw", x.open(2), 1);
        check.due("13: nothing left there", x.open(2), 0);
        check.due("13: times", x.openOften(0, 30), 60);
        check.due("13: rise", x.value(0), 9);
        check.due("13: openings", x.value(2), 33);
        check.due("13: finds", x.value(3), 63);
        check.due("13: kept", x.value(4), 20);
        check.due("13: spent", x.value(6), 2);
        check.due("13: different items", x.value(7), 2);
        check.due("13: s after 63 numbers", x.value(1), numberAfter(63));
        FindTables all = Check.tables("e0,0,1,00o;");
        all.open(0);
        check.due("13: item 0 is an item too", all.value(7), 1);
        all.removeEntry(0, 0);
        check.due("13: a spent entry that is removed", all.value(5) * 10 + all.value(6), 0);
        check.due("13: its find stays", all.value(3) * 100 + all.value(4) * 10 + all.value(7), 111);
        for (int item = 1; item < 16; item++) {
            check.due("13: different items before " + item, all.value(7), item);
            all.addEntry(1, item, 1, 0, 0, false);
            all.open(1);
            all.removeEntry(1, 0);
        }
        check.due("13: all items", all.value(7), 16);
        check.due("13: kept below 20", all.value(4), 16);
        check.dueThrow("13: what -1", x, ARGUMENT, () -> x.value(-1));
        check.dueThrow("13: what 8", x, ARGUMENT, () -> x.value(8));
    }

    private static long numberAfter(int draws) {
        long s = 1;
        for (int i = 0; i < draws; i++) {
            s = (1103515245L * s + 12345L) % 2147483648L;
        }
        return s;
    }
}
