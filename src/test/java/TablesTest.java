/** Promises 1 to 8. */
public final class TablesTest {
    private static final Class<IndexOutOfBoundsException> INDEX = IndexOutOfBoundsException.class;
    private static final Class<IllegalArgumentException> ARGUMENT = IllegalArgumentException.class;
    private static final Class<IllegalStateException> STATE = IllegalStateException.class;
    private static final Check check = new Check("TablesTest");

    public static void main(String[] args) {
        promise1NewObject();
        promise2SetDraws();
        promise3AddEntry();
        promise3Wrong();
        promise4RemoveEntry();
        promise5SetWeight();
        promise6Restore();
        promise7Entry();
        promise7CouldBeDrawn();
        promise8Table();
        promise8Wanted();
        check.finish();
    }

    private static void promise1NewObject() {
        FindTables x = new FindTables();
        for (int t = 0; t < 3; t++) {
            check.due("1: draws of table " + t, x.table(t, 0), 1);
            check.due("1: entries of table " + t, x.table(t, 1), 0);
            check.due("1: wanted of table " + t, x.table(t, 2), 0);
            check.due("1: sum of table " + t, x.table(t, 3), 0);
        }
        for (int r = 1; r <= 3; r++) {
            check.due("1: counter " + r, x.luck(r, false), 0);
            check.due("1: limit " + r, x.luck(r, true), 0);
        }
        for (int what = 0; what < 8; what++) {
            check.due("1: value " + what, x.value(what), what == 1 ? 1 : 0);
        }
        for (int item = 0; item < 16; item++) {
            check.due("1: often " + item, x.often(item), 0);
        }
        check.due("1: no find", x.find(0, 0), -1);
        check.due("1: no text", x.clearText(), 0);
        check.due("1: NONE", FindTables.NONE, -1);
        for (int t = 0; t < 3; t++) {
            int table = t;
            check.due("1: nothing to find in table " + t, x.chanceOf(t, 0) + x.chanceRare(t, 0) + x.meanFinds(t), 0);
            check.due("1: never found in table " + t, x.soonest(t, 15), -1);
            check.due("1: no best entry in table " + t, x.bestDouble(t, 15), -1);
            check.dueThrow("1: no entry in table " + t, x, INDEX, () -> x.entry(table, 0, 0));
        }
        check.dueDouble("1: lucky share", x.luckyShare(), 0.0);
        check.dueThrow("1: nothing saved", x, STATE, () -> x.undo());
        FindTables y = new FindTables();
        y.addEntry(0, 1, 1, 0, 0, false);
        check.due("1: objects share nothing", x.table(0, 1), 0);
    }

    private static void promise2SetDraws() {
        FindTables x = new FindTables();
        check.due("2: first", x.setDraws(1, 2), 1);
        check.due("2: told", x.table(1, 0), 2);
        check.due("2: others stay", x.table(0, 0) * 10 + x.table(2, 0), 11);
        check.due("2: again", x.setDraws(1, 2), 2);
        check.due("2: back", x.setDraws(1, 1), 2);
        check.due("2: told back", x.table(1, 0), 1);
        check.due("2: undoable", x.undo(), 2);
        check.due("2: undone", x.table(1, 0), 2);
        check.dueThrow("2: table -1", x, INDEX, () -> x.setDraws(-1, 1));
        check.dueThrow("2: table 3", x, INDEX, () -> x.setDraws(3, 1));
        check.dueThrow("2: table first", x, INDEX, () -> x.setDraws(Integer.MAX_VALUE, 3));
        check.dueThrow("2: draws 0", x, ARGUMENT, () -> x.setDraws(0, 0));
        check.dueThrow("2: draws 3", x, ARGUMENT, () -> x.setDraws(2, 3));
        check.dueThrow("2: draws least", x, ARGUMENT, () -> x.setDraws(2, Integer.MIN_VALUE));
    }

    private static void promise3AddEntry() {
        FindTables x = new FindTables();
        check.due("3: first", x.addEntry(0, 15, 1000, 3, 3, true), 0);
        check.due("3: second", x.addEntry(0, 0, 1, 0, 0, false), 1);
        check.due("3: link up by one", x.addEntry(0, 17, 2, 0, 1, true), 2);
        check.due("3: link up by two", x.addEntry(0, 18, 3, 0, 2, false), 3);
        check.due("3: other table", x.addEntry(1, 18, 4, 0, 0, false), 0);
        int[][] due = {{15, 1000, 3, 3, 1}, {0, 1, 0, 0, 0}, {17, 2, 0, 1, 1}, {18, 3, 0, 2, 0}};
        for (int e = 0; e < due.length; e++) {
            for (int what = 0; what < 5; what++) {
                check.due("3: entry " + e + " what " + what, x.entry(0, e, what), due[e][what]);
            }
            check.due("3: not spent " + e, x.entry(0, e, 5), 0);
        }
        check.due("3: fifth", x.addEntry(0, 1, 1, 0, 0, false), 4);
        check.due("3: sixth", x.addEntry(0, 1, 1, 0, 0, false), 5);
        check.dueThrow("3: seventh", x, STATE, () -> x.addEntry(0, 1, 1, 0, 0, false));
        check.due("3: room elsewhere", x.addEntry(2, 1, 1, 0, 0, false), 0);
        check.due("3: undoable", x.undo(), 3);
        check.due("3: undone", x.table(2, 1), 0);
    }

    private static void promise3Wrong() {
        FindTables x = new FindTables();
        check.dueThrow("3: table -1", x, INDEX, () -> x.addEntry(-1, 1, 1, 0, 0, false));
        check.dueThrow("3: table 3", x, INDEX, () -> x.addEntry(3, 19, 0, 4, 4, false));
        check.dueThrow("3: what -1", x, ARGUMENT, () -> x.addEntry(0, -1, 1, 0, 0, false));
        check.dueThrow("3: what 19", x, ARGUMENT, () -> x.addEntry(0, 19, 1, 0, 0, false));
        check.dueThrow("3: link 0 to 0", x, ARGUMENT, () -> x.addEntry(0, 16, 1, 0, 0, false));
        check.dueThrow("3: link 1 to 0", x, ARGUMENT, () -> x.addEntry(1, 16, 1, 0, 0, false));
        check.dueThrow("3: link 1 to 1", x, ARGUMENT, () -> x.addEntry(1, 17, 1, 0, 0, false));
        check.dueThrow("3: link 2 to 2", x, ARGUMENT, () -> x.addEntry(2, 18, 1, 0, 0, false));
        check.dueThrow("3: weight 0", x, ARGUMENT, () -> x.addEntry(0, 1, 0, 0, 0, false));
        check.dueThrow("3: weight 1001", x, ARGUMENT, () -> x.addEntry(0, 1, 1001, 0, 0, false));
        check.dueThrow("3: rarity -1", x, ARGUMENT, () -> x.addEntry(0, 1, 1, -1, 0, false));
        check.dueThrow("3: rarity 4", x, ARGUMENT, () -> x.addEntry(0, 1, 1, 4, 0, false));
        check.dueThrow("3: rarity of a link", x, ARGUMENT, () -> x.addEntry(0, 17, 1, 1, 0, false));
        check.dueThrow("3: group -1", x, ARGUMENT, () -> x.addEntry(0, 1, 1, 0, -1, false));
        check.dueThrow("3: group 4", x, ARGUMENT, () -> x.addEntry(0, 1, 1, 0, 4, false));
        for (int i = 0; i < 6; i++) {
            x.addEntry(1, 1, 1, 0, 0, false);
        }
        check.dueThrow("3: full, table first", x, INDEX, () -> x.addEntry(3, 1, 1, 0, 0, false));
        check.dueThrow("3: full, argument first", x, ARGUMENT, () -> x.addEntry(1, 1, 1, 0, 4, false));
        check.dueThrow("3: full", x, STATE, () -> x.addEntry(1, 1, 1, 0, 0, false));
    }

    private static void promise4RemoveEntry() {
        FindTables x = Check.tables("e0,1,11,10o;e0,2,22,21;e0,3,33,32o;e0,17,44,03;e1,4,5,00;");
        x.setDraws(0, 2);
        x.open(0);
        x.open(0);
        x.open(0);
        int spentThird = x.entry(0, 2, 5);
        check.due("4: left", x.removeEntry(0, 1), 3);
        int[][] due = {{1, 11, 1, 0, 1}, {3, 33, 3, 2, 1}, {17, 44, 0, 3, 0}};
        for (int e = 0; e < due.length; e++) {
            for (int what = 0; what < 5; what++) {
                check.due("4: entry " + e + " what " + what, x.entry(0, e, what), due[e][what]);
            }
        }
        check.due("4: spent moves along", x.entry(0, 1, 5), spentThird);
        check.due("4: all three were tried", spentThird, 1);
        check.due("4: the entries that move keep what they are", x.entry(0, 0, 5) + x.entry(0, 2, 5), 1);
        check.due("4: other table stays", x.entry(1, 0, 0), 4);
        check.due("4: finds stay", x.often(2) + x.often(3) + x.often(1), x.value(3) - x.often(4));
        check.due("4: last", x.removeEntry(0, 2), 2);
        check.due("4: first", x.removeEntry(0, 0), 1);
        check.due("4: what is left", x.entry(0, 0, 0), 3);
        check.due("4: none left", x.removeEntry(0, 0), 0);
        check.dueThrow("4: empty", x, INDEX, () -> x.removeEntry(0, 0));
        check.due("4: a new one is not spent", x.addEntry(0, 9, 1, 0, 0, true), 0);
        check.due("4: not spent", x.entry(0, 0, 5), 0);
        check.due("4: undo adding", x.undo(), 3);
        check.due("4: undoable", x.undo(), 2);
        check.due("4: undone", x.entry(0, 0, 0), 3);
        check.dueThrow("4: table -1", x, INDEX, () -> x.removeEntry(-1, 0));
        check.dueThrow("4: table 3", x, INDEX, () -> x.removeEntry(3, 0));
        check.dueThrow("4: entry -1", x, INDEX, () -> x.removeEntry(0, -1));
        check.dueThrow("4: entry 1", x, INDEX, () -> x.removeEntry(0, 1));
    }

    private static void promise5SetWeight() {
        FindTables x = Check.tables("e0,1,11,00;e0,2,22,00;e1,3,33,00;");
        check.due("5: previous", x.setWeight(0, 1, 1000), 22);
        check.due("5: told", x.entry(0, 1, 1), 1000);
        check.due("5: others stay", x.entry(0, 0, 1) * 100 + x.entry(1, 0, 1), 1133);
        check.due("5: same again", x.setWeight(0, 1, 1000), 1000);
        check.due("5: least", x.setWeight(0, 1, 1), 1000);
        check.due("5: sum", x.table(0, 3), 12);
        check.due("5: undoable", x.undo(), 3);
        check.due("5: undone", x.entry(0, 1, 1), 1000);
        check.dueThrow("5: table 3", x, INDEX, () -> x.setWeight(3, 0, 0));
        check.dueThrow("5: table -1", x, INDEX, () -> x.setWeight(-1, 0, 1));
        check.dueThrow("5: entry 2, weight wrong too", x, INDEX, () -> x.setWeight(0, 2, 0));
        check.dueThrow("5: entry -1", x, INDEX, () -> x.setWeight(0, -1, 1));
        check.dueThrow("5: no entries", x, INDEX, () -> x.setWeight(2, 0, 1));
        check.dueThrow("5: weight 0", x, ARGUMENT, () -> x.setWeight(0, 0, 0));
        check.dueThrow("5: weight 1001", x, ARGUMENT, () -> x.setWeight(0, 0, 1001));
    }

    private static void promise6Restore() {
        FindTables empty = new FindTables();
        check.due("6: no entries", empty.restore(), 0);
        check.due("6: undoable without entries", empty.undo(), 0);
        FindTables x = Check.tables("d02;e0,1,1,00o;e0,17,1,00o;e1,2,1,00o;e2,3,1,00;");
        check.due("6: nothing spent", x.restore(), 0);
        check.due("6: undoable though nothing changed", x.undo(), 1);
        check.due("6: both drawn", x.open(0), 2);
        x.open(2);
        check.due("6: spent", x.value(6), 3);
        check.due("6: all", x.restore(), 3);
        check.due("6: none spent", x.value(6), 0);
        check.due("6: entries not spent", x.entry(0, 0, 5) + x.entry(0, 1, 5) + x.entry(1, 0, 5), 0);
        check.due("6: drawn again", x.open(0), 2);
        x.undo();
        x.undo();
        check.due("6: undone", x.value(6), 3);
    }

    private static void promise7Entry() {
        FindTables x = Check.tables("e0,15,7,21o;e0,18,9,02;e2,3,5,33;");
        x.setRise(25, -1);
        x.setCounter(2, 3);
        x.setCounter(3, 200);
        check.due("7: present weight 7 * 175 / 100", x.entry(0, 0, 6), 12);
        check.due("7: present weight of a link", x.entry(0, 1, 6), 9);
        check.due("7: present weight 5 * 5100 / 100", x.entry(2, 0, 6), 255);
        x.setRise(50, -1);
        x.setWeight(2, 0, 1000);
        check.due("7: greatest present weight", x.entry(2, 0, 6), 101000);
        check.due("7: weight stays", x.entry(2, 0, 1), 1000);
        check.due("7: rarity 0 does not rise", Check.tables("e0,1,8,00;").entry(0, 0, 6), 8);
        check.dueThrow("7: table 3", x, INDEX, () -> x.entry(3, 0, 0));
        check.dueThrow("7: table -1", x, INDEX, () -> x.entry(-1, 0, 0));
        check.dueThrow("7: entry 2, what wrong too", x, INDEX, () -> x.entry(0, 2, 8));
        check.dueThrow("7: entry -1", x, INDEX, () -> x.entry(0, -1, 0));
        check.dueThrow("7: what 8", x, ARGUMENT, () -> x.entry(0, 0, 8));
        check.dueThrow("7: what -1", x, ARGUMENT, () -> x.entry(0, 0, -1));
    }

    private static void promise7CouldBeDrawn() {
        FindTables x = Check.tables("e0,1,1,00o;e0,17,1,00;e0,18,1,00;e1,18,1,00;");
        check.due("7: item", x.entry(0, 0, 7), 1);
        check.due("7: link to links to nothing", x.entry(0, 1, 7), 0);
        check.due("7: link to nothing", x.entry(0, 2, 7), 0);
        x.addEntry(2, 5, 1, 2, 0, true);
        check.due("7: link over a link", x.entry(0, 1, 7), 1);
        check.due("7: link", x.entry(0, 2, 7), 1);
        x.setLimit(2, 1);
        check.due("7: too common for the wanted rarity", x.entry(0, 0, 7), 0);
        check.due("7: link to what is wanted", x.entry(0, 1, 7), 1);
        x.open(0);
        check.due("7: the rare one is spent", x.entry(2, 0, 5), 1);
        check.due("7: nothing is wanted then", x.entry(0, 0, 7), 1);
        check.due("7: links lead to nothing again", x.entry(0, 1, 7) + x.entry(0, 2, 7), 0);
        x.open(0);
        check.due("7: spent", x.entry(0, 0, 7), 0);
        check.due("7: told as spent", x.entry(0, 0, 5), 1);
    }

    private static void promise8Table() {
        FindTables x = Check.tables("d12;e0,1,100,00;e0,2,20,10;e0,17,3,00;e1,3,1000,00o;");
        check.due("8: draws", x.table(0, 0) * 10 + x.table(1, 0), 12);
        check.due("8: entries", x.table(0, 1) * 100 + x.table(1, 1) * 10 + x.table(2, 1), 310);
        check.due("8: sum", x.table(0, 3), 123);
        check.due("8: sum of table 1", x.table(1, 3), 1000);
        x.setRise(10, -1);
        x.setCounter(1, 5);
        check.due("8: sum of present weights", x.table(0, 3), 133);
        x.open(1);
        check.due("8: a spent one is not in the sum", x.table(1, 3), 0);
        check.due("8: nor a link to it; counter 1 is 6", x.table(0, 3), 132);
        check.dueThrow("8: table 3, what wrong too", x, INDEX, () -> x.table(3, 4));
        check.dueThrow("8: table -1", x, INDEX, () -> x.table(-1, 0));
        check.dueThrow("8: what 4", x, ARGUMENT, () -> x.table(0, 4));
        check.dueThrow("8: what -1", x, ARGUMENT, () -> x.table(0, -1));
    }

    private static void promise8Wanted() {
        FindTables x = Check.tables("e0,1,1,00;e0,2,20,10;e0,3,300,20;e0,18,400,00;");
        check.due("8: none wanted", x.table(0, 2), 0);
        x.setLimit(1, 3);
        x.setCounter(1, 1);
        check.due("8: counter + 1 below the limit", x.table(0, 2), 0);
        x.setCounter(1, 2);
        check.due("8: counter + 1 is the limit", x.table(0, 2), 1);
        check.due("8: sum with rarity 1 wanted", x.table(0, 3), 320);
        x.setCounter(1, 200);
        check.due("8: counter above the limit", x.table(0, 2), 1);
        x.setLimit(2, 1);
        check.due("8: the greatest one", x.table(0, 2), 2);
        check.due("8: sum with rarity 2 wanted", x.table(0, 3), 300);
        x.setLimit(3, 1);
        check.due("8: nothing of rarity 3 to draw", x.table(0, 2), 2);
        x.addEntry(2, 9, 1, 3, 0, false);
        check.due("8: rarity 3 behind a link", x.table(0, 2), 3);
        check.due("8: sum is the link's weight", x.table(0, 3), 400);
        check.due("8: table without any", x.table(1, 2), 0);
        x.setLimit(3, 0);
        check.due("8: limit 0 is none", x.table(0, 2), 2);
        x.removeEntry(0, 2);
        check.due("8: the link leads to rarity 2 too", x.table(0, 3), 400);
    }
}
