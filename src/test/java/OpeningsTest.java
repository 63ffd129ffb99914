/** Promises 14 to 17. From s = 1 the chance gives 16838, 5758, 10113, 17515, 31051, 5627, 23010, 7419, 16212, 4086. */
public final class OpeningsTest {
    private static final Class<IndexOutOfBoundsException> INDEX = IndexOutOfBoundsException.class;
    private static final Class<IllegalArgumentException> ARGUMENT = IllegalArgumentException.class;
    private static final Check check = new Check("OpeningsTest");

    public static void main(String[] args) {
        promise14Weights();
        promise14Nothing();
        promise14Links();
        promise14GroupsAndOnce();
        promise14GroupsOfOneTable();
        promise14Wanted();
        promise14WantedBehindLinks();
        promise14Counters();
        promise14Rise();
        promise15OpenOften();
        promise16Find();
        promise17Often();
        check.finish();
    }

    private static void dueFinds(String what, FindTables x, int... items) {
        for (int i = 0; i < items.length; i++) {
            check.due(what + ", find " + i + " from the first", x.find(items.length - 1 - i, 0), items[i]);
        }
    }

    private static void promise14Weights() {
        FindTables x = Check.tables("e0,10,1,00;e0,11,2,00;e0,12,3,00;");
        for (int i = 0; i < 10; i++) {
            check.due("14: found", x.open(0), 1);
        }
        dueFinds("14: weights 1, 2, 3", x, 11, 12, 12, 11, 11, 12, 10, 12, 10, 10);
        check.due("14: openings", x.value(2), 10);
        check.due("14: undoable", x.undo(), 3);
        check.due("14: undone", x.value(3), 9);
        check.due("14: s undone", x.open(0) + x.find(0, 0), 11);
        check.dueThrow("14: table -1", x, INDEX, () -> x.open(-1));
        check.dueThrow("14: table 3", x, INDEX, () -> x.open(3));
        FindTables y = Check.tables("d02;e0,7,5,00;");
        check.due("14: two draws", y.open(0), 2);
        check.due("14: a number for each, though but one can be drawn", y.value(1), 377401575);
    }

    private static void promise14Nothing() {
        FindTables x = new FindTables();
        check.due("14: empty table", x.open(1), 0);
        check.due("14: it is an opening", x.value(2), 1);
        check.due("14: counters increase", x.luck(1, false) * 100 + x.luck(2, false) * 10 + x.luck(3, false), 111);
        check.due("14: no number is drawn", x.value(1), 1);
        check.due("14: undo", x.undo(), 0);
        check.due("14: no opening", x.value(2), 0);
    }

    /** 16838 mod 3 is 2, 5758 mod 7 is 4, 10113 mod 2 is 1. */
    private static void promise14Links() {
        FindTables x = Check.tables("d12;d22;e0,1,1,00;e0,17,2,00o;e1,2,4,00;e1,18,3,00o;e2,3,1,00;e2,4,1,00o;");
        check.due("14: one item over two links", x.open(0), 1);
        dueFinds("14: over two links", x, 4);
        check.due("14: three numbers", x.value(1), 662824084);
        check.due("14: the links are spent", x.entry(0, 1, 5) + x.entry(1, 1, 5) + x.entry(2, 1, 5), 3);
        check.due("14: the others are not", x.value(6), 3);
    }

    private static void promise14GroupsAndOnce() {
        FindTables x = Check.tables("d02;e0,1,1,01;e0,2,1,01;e0,3,1,02;e0,4,1,02;");
        check.due("14: of two groups", x.openOften(0, 100), 200);
        check.due("14: each opening has one of each group", x.often(1) + x.often(2), 100);
        FindTables y = Check.tables("d02;e0,1,1,03;e0,2,1,03;");
        check.due("14: only one of a group", y.open(0), 1);
        check.due("14: again in the next opening", y.open(0), 1);
        FindTables z = Check.tables("d02;e0,1,1,00;");
        check.due("14: group 0 excludes nothing", z.open(0), 2);
        FindTables o = Check.tables("d02;e0,1,1,00o;");
        check.due("14: once in an opening", o.open(0), 1);
        check.due("14: once in all", o.open(0), 0);
        check.due("14: openings", o.value(2), 2);
    }

    private static void promise14GroupsOfOneTable() {
        FindTables x = Check.tables("d02;e0,17,1,01;e0,17,1,02;e1,1,1,01;e1,2,1,02;");
        check.due("14: groups of table 1 do not matter in table 0", x.openOften(0, 50), 100);
        check.due("14: but in table 1", x.often(1), 50);
        FindTables y = Check.tables("d02;e0,17,1,01;e0,5,1,01;e0,18,1,02;e1,1,1,01;e2,7,1,01;");
        check.due("14: a link excludes its group", y.openOften(0, 40), 80);
        check.due("14: table 2 in each opening", y.often(7), 40);
        check.due("14: and one of the others", y.often(1) + y.often(5), 40);
        for (int group = 1; group <= 3; group++) {
            String text = "d02;e0,1,1,0" + group + ";e0,17,1,00;e0,18,1,00;e1,2,1,01;e1,2,1,02;e2,3,1,01;e2,3,1,02;";
            FindTables g = Check.tables(text);
            check.due("14: group " + group + " of table 0", g.openOften(0, 40), 80);
        }
        FindTables z = Check.tables("d02;e0,17,1,00;e1,1,1,01;e1,2,1,01;");
        check.due("14: a link to a table with nothing left", z.open(0), 1);
    }

    private static void promise14Wanted() {
        FindTables x = Check.tables("d02;e0,1,1000,00;e0,2,1,10;e0,3,1,20;e0,4,1,30;");
        x.setLimit(1, 1);
        x.setLimit(2, 2);
        check.due("14: two draws", x.open(0), 2);
        check.dueTrue("14: the first has at least rarity 1", x.find(1, 1) >= 1);
        check.due("14: the second is common", x.find(0, 0), 1);
        FindTables y = Check.tables("d02;e0,1,1000,00;e0,4,1,30o;e0,2,1,10;");
        y.setLimit(3, 1);
        y.setLimit(1, 1);
        check.due("14: rarity 3 first", y.open(0) + y.find(1, 0), 6);
        check.due("14: rarity 3 serves for rarity 1 too", y.find(0, 0), 1);
        check.due("14: the spent one cannot be wanted", y.open(0) + y.find(1, 0), 4);
        FindTables z = Check.tables("d02;e0,1,1000,00;e0,2,1,11;e0,3,1,31;");
        z.setLimit(1, 1);
        z.setCounter(1, 0);
        z.setLimit(3, 5);
        z.setCounter(3, 3);
        check.due("14: rarity 3 is not due yet", z.table(0, 2), 1);
        z.setCounter(3, 4);
        z.open(0);
        check.due("14: rarity 3 is due", z.find(1, 0), 3);
        check.due("14: counter of 3", z.luck(3, false), 0);
    }

    private static void promise14WantedBehindLinks() {
        FindTables x = Check.tables("e0,1,1000,00;e0,17,1,00;e1,2,1000,10;e1,18,1,00;e2,3,1000,20;e2,4,1,30;");
        x.setLimit(3, 1);
        for (int i = 0; i < 5; i++) {
            x.open(0);
            check.due("14: over links with the same wanted rarity", x.find(0, 0), 4);
        }
        check.due("14: fifteen numbers", x.value(1), after(15));
        x.setLimit(3, 0);
        x.setLimit(2, 1);
        x.openOften(0, 40);
        check.due("14: rarity 2 or more", x.often(3) + x.often(4), 45);
    }

    private static long after(int draws) {
        long s = 1;
        for (int i = 0; i < draws; i++) {
            s = (1103515245L * s + 12345L) % 2147483648L;
        }
        return s;
    }

    private static void promise14Counters() {
        FindTables x = Check.tables("e0,1,1,20;e1,2,1,00;e2,3,1,30;");
        x.setCounter(1, 199);
        x.setCounter(2, 200);
        x.setCounter(3, 50);
        x.open(1);
        check.due("14: to 200", x.luck(1, false), 200);
        check.due("14: not above 200", x.luck(2, false), 200);
        check.due("14: by 1", x.luck(3, false), 51);
        x.open(0);
        check.due("14: rarity 2 found: 1", x.luck(1, false), 0);
        check.due("14: rarity 2 found: 2", x.luck(2, false), 0);
        check.due("14: rarity 2 found: 3", x.luck(3, false), 52);
        x.open(2);
        check.due("14: rarity 3 found", x.luck(1, false) + x.luck(2, false) + x.luck(3, false), 0);
        x.open(1);
        check.due("14: by 1 again", x.luck(1, false) + x.luck(2, false) + x.luck(3, false), 3);
    }

    /** With rise 50 and counter 2 the weights are 1 and 2, else 1 and 1; 16838 mod 3 is 2, 16838 mod 2 is 0. */
    private static void promise14Rise() {
        FindTables x = Check.tables("e0,1,1,00;e0,2,1,10;");
        x.open(0);
        check.due("14: without rise", x.find(0, 0), 1);
        x.setRise(50, 1);
        x.setCounter(1, 2);
        x.open(0);
        check.due("14: with rise", x.find(0, 0), 2);
        FindTables y = Check.tables("d02;e0,2,1,11;e0,3,2,12;");
        y.setRise(50, 1);
        y.setCounter(1, 100);
        y.open(0);
        check.due("14: 16838 mod (51 + 102) is 8", y.find(1, 0), 2);
        check.due("14: counter after it", y.luck(1, false), 0);
    }

    private static void promise15OpenOften() {
        FindTables x = Check.tables("e0,10,1,00;e0,11,2,00;e0,12,3,00;");
        check.due("15: ten times", x.openOften(0, 10), 10);
        dueFinds("15: one after the other", x, 11, 12, 12, 11, 11, 12, 10, 12, 10, 10);
        check.due("15: openings", x.value(2), 10);
        check.due("15: numbers of openings", x.find(9, 2) * 100 + x.find(0, 2), 110);
        check.due("15: counters", x.luck(1, false), 10);
        check.due("15: one saved state", x.undo(), 1);
        check.due("15: undone", x.value(2) + x.value(3), 0);
        check.due("15: once", x.openOften(0, 1), 1);
        check.due("15: most", x.openOften(0, 200), 200);
        check.due("15: empty table", x.openOften(1, 200), 0);
        check.due("15: all of them", x.value(2), 401);
        FindTables once = Check.tables("e0,1,1,20o;e1,2,1,00;");
        check.due("15: the first of five empties it", once.openOften(0, 5), 1);
        check.due("15: the others are openings", once.value(2) * 10 + once.luck(2, false), 54);
        check.due("15: one saved state for five", once.undo(), 1);
        check.due("15: all five undone", once.value(2) + once.value(3) + once.value(6) + once.luck(2, false), 0);
        FindTables wanted = Check.tables("e0,1,1000,00;e0,2,1,30;");
        wanted.setLimit(3, 4);
        wanted.openOften(0, 200);
        check.dueTrue("15: certain in each fourth at the latest", wanted.often(2) >= 50);
        check.dueThrow("15: table 3, times wrong too", x, INDEX, () -> x.openOften(3, 0));
        check.dueThrow("15: table -1", x, INDEX, () -> x.openOften(-1, 1));
        check.dueThrow("15: times 0", x, ARGUMENT, () -> x.openOften(0, 0));
        check.dueThrow("15: times 201", x, ARGUMENT, () -> x.openOften(0, 201));
        check.dueThrow("15: times -1", x, ARGUMENT, () -> x.openOften(0, -1));
    }

    private static void promise16Find() {
        FindTables x = Check.tables("d02;e0,1,1,31;e0,2,1,02;e1,9,1,20;");
        check.due("16: none yet", x.find(0, 0), -1);
        x.open(1);
        x.open(2);
        x.open(0);
        check.due("16: the latest of two has group 1 or 2", x.find(0, 0) + x.find(1, 0), 3);
        check.due("16: rarity goes with the item", x.find(0, 1), x.find(0, 0) == 1 ? 3 : 0);
        check.due("16: opening", x.find(0, 2) * 10 + x.find(1, 2), 33);
        check.due("16: the first find", x.find(2, 0), 9);
        check.due("16: its rarity", x.find(2, 1), 2);
        check.due("16: its opening", x.find(2, 2), 1);
        check.due("16: not so many", x.find(3, 0), -1);
        check.due("16: far from so many", x.find(Integer.MAX_VALUE, 2), -1);
        x.removeEntry(1, 0);
        x.addEntry(1, 9, 1, 0, 0, false);
        check.due("16: the rarity when it was found", x.find(2, 1), 2);
        x.openOften(1, 17);
        check.due("16: twenty are kept", x.find(19, 0) * 10 + x.find(19, 1), 92);
        x.open(1);
        check.due("16: the oldest one is dropped", x.find(19, 2), 3);
        check.due("16: not more", x.find(20, 0), -1);
        check.due("16: kept", x.value(4), 20);
        check.dueThrow("16: index -1", x, ARGUMENT, () -> x.find(-1, 0));
        check.dueThrow("16: what -1", x, ARGUMENT, () -> x.find(0, -1));
        check.dueThrow("16: what 3", x, ARGUMENT, () -> x.find(0, 3));
        check.dueThrow("16: what 3 of none", x, ARGUMENT, () -> x.find(50, 3));
    }

    private static void promise17Often() {
        FindTables x = Check.tables("d02;e0,0,1,01;e0,15,1,02;e1,15,1,00;");
        x.openOften(0, 7);
        x.openOften(1, 200);
        check.due("17: item 0", x.often(0), 7);
        check.due("17: item 15", x.often(15), 207);
        check.due("17: another", x.often(7), 0);
        x.undo();
        check.due("17: undone", x.often(15), 7);
        FindTables twice = Check.tables("d02;e0,15,1,00;");
        twice.open(0);
        check.due("17: twice in an opening", twice.often(15), 2);
        twice.removeEntry(0, 0);
        check.due("17: the entry removed", twice.often(15), 2);
        twice.parse();
        check.due("17: other tables", twice.often(15), 2);
        check.dueThrow("17: item -1", x, INDEX, () -> x.often(-1));
        check.dueThrow("17: item 16", x, INDEX, () -> x.often(16));
    }
}
