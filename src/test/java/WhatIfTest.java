/** Promises 23 and 24. */
public final class WhatIfTest {
    private static final Class<IndexOutOfBoundsException> INDEX = IndexOutOfBoundsException.class;
    private static final Check check = new Check("WhatIfTest");

    public static void main(String[] args) {
        promise23Soonest();
        promise23Far();
        promise23At300();
        promise24BestDouble();
        promise24Ties();
        promise24AtMost1000();
        promise24NotDrawable();
        check.finish();
    }

    /** The finds from s = 1 are 11, 12, 12, 11, 11, 12, 10, 12, 10, 10. */
    private static void promise23Soonest() {
        FindTables x = Check.tables("e0,10,1,00;e0,11,2,00;e0,12,3,00;");
        check.due("23: by the first", x.soonest(0, 11), 1);
        check.due("23: by the second", x.soonest(0, 12), 2);
        check.due("23: by the seventh", x.soonest(0, 10), 7);
        check.due("23: never", x.soonest(0, 3), -1);
        check.due("23: empty table", x.soonest(1, 10), -1);
        x.openOften(0, 3);
        check.due("23: from the present s", x.soonest(0, 10), 4);
        check.due("23: found before does not count", x.soonest(0, 12), 3);
        check.due("23: nothing is opened", x.value(2), 3);
        check.due("23: nothing is saved", x.undo(), 1);
        FindTables two = Check.tables("d02;e0,10,1,00;e0,11,2,00;e0,12,3,00;");
        check.due("23: openings are counted, not draws", two.soonest(0, 10), 4);
        check.dueThrow("23: table 3", x, INDEX, () -> x.soonest(3, 0));
        check.dueThrow("23: table -1", x, INDEX, () -> x.soonest(-1, 0));
        check.dueThrow("23: item 16", x, INDEX, () -> x.soonest(0, 16));
        check.dueThrow("23: item -1", x, INDEX, () -> x.soonest(0, -1));
    }

    private static void promise23Far() {
        FindTables x = Check.tables("e0,1,1000,00;e0,2,1,10o;e1,4,1000,00;e1,5,1,10;");
        x.setLimit(1, 5);
        x.setCounter(1, 2);
        check.due("23: the limit makes it certain", x.soonest(0, 2), 3);
        check.due("23: the common one", x.soonest(0, 1), 1);
        x.setLimit(1, 200);
        x.setCounter(1, 0);
        x.setRise(0, 0);
        int first = x.soonest(1, 5);
        check.dueTrue("23: by 200 openings at the latest: " + first, first >= 1 && first <= 200);
        x.openOften(0, 3);
        x.setLimit(1, 1);
        x.open(0);
        check.due("23: it comes only once", x.soonest(0, 2), -1);
        check.due("23: the trial's finds are not mixed up", x.soonest(0, 2), -1);
    }

    /** The least s from which the number 1000 modulo 1001 comes first at the 300th opening, or at the 301st. */
    private static void promise23At300() {
        FindTables x = Check.tables("e0,1,1000,00;e0,9,1,30;");
        x.setRise(0, 1555);
        check.due("23: by the 300th", x.soonest(0, 9), 300);
        x.openOften(0, 200);
        x.openOften(0, 99);
        check.due("23: not before", x.often(9), 0);
        check.due("23: next", x.soonest(0, 9), 1);
        x.open(0);
        check.due("23: then", x.often(9), 1);
        x.setRise(0, 1003);
        check.due("23: not by 300", x.soonest(0, 9), -1);
        x.openOften(0, 200);
        x.openOften(0, 100);
        check.due("23: not by 300 openings", x.often(9), 1);
        x.open(0);
        check.due("23: by the 301st", x.often(9), 2);
    }

    private static void promise24BestDouble() {
        FindTables x = Check.tables("e0,1,10,00;e0,2,20,00;e0,17,30,00;e1,2,1,00;e1,3,1,00;");
        check.due("24: item 1", x.bestDouble(0, 1), 0);
        check.due("24: item 2: 40 + 15 of 80, 20 + 30 of 90", x.bestDouble(0, 2), 1);
        check.due("24: item 3 behind the link", x.bestDouble(0, 3), 2);
        check.due("24: of table 1", x.bestDouble(1, 3), 1);
        check.due("24: weights stay", x.table(0, 3), 60);
        x.setWeight(0, 1, 1000);
        check.due("24: all others lower the chance", x.bestDouble(0, 2), 1);
        check.due("24: table without entries", x.bestDouble(2, 1), -1);
        check.dueThrow("24: table 3", x, INDEX, () -> x.bestDouble(3, 0));
        check.dueThrow("24: table -1", x, INDEX, () -> x.bestDouble(-1, 0));
        check.dueThrow("24: item 16", x, INDEX, () -> x.bestDouble(0, 16));
        check.dueThrow("24: item -1", x, INDEX, () -> x.bestDouble(0, -1));
    }

    private static void promise24Ties() {
        FindTables x = Check.tables("d02;e0,5,7,00;e0,1,4,00;e0,1,4,00;");
        check.due("24: the lowest of two alike", x.bestDouble(0, 1), 1);
        check.due("24: no chance at all", x.bestDouble(0, 9), 0);
        check.due("24: the other item", x.bestDouble(0, 5), 0);
        FindTables y = Check.tables("e0,5,600,00;e0,1,1000,00;e0,1,999,00;");
        check.due("24: at most 1000: 1999 of 2599 and 2000 of 2600", y.bestDouble(0, 1), 2);
        FindTables d = Check.tables("e0,1,1,00;e0,17,2,00;e0,9,7,00;e1,1,2,00;e1,2,1,00;");
        check.due("24: doubled, not more: 110 of 363 and 11 of 36", d.bestDouble(0, 1), 1);
        FindTables z = Check.tables("e0,5,1,10;e0,6,1,10;e0,7,1,00;");
        z.setRise(50, -1);
        z.setCounter(1, 1);
        check.due("24: present weights: doubled 1 is 3 with the rise", z.bestDouble(0, 6), 1);
    }

    private static void promise24AtMost1000() {
        FindTables x = Check.tables("e0,5,1000,00;e0,1,999,00;e0,1,501,00;e0,1,500,00;");
        check.due("24: 500 becomes 1000", x.bestDouble(0, 1), 3);
        x.setWeight(0, 3, 501);
        check.due("24: 501 becomes 1000 too, the lowest of both", x.bestDouble(0, 1), 2);
        x.setWeight(0, 3, 1000);
        check.due("24: 1000 stays 1000", x.bestDouble(0, 1), 2);
        x.setWeight(0, 2, 1000);
        check.due("24: 999 gains 1", x.bestDouble(0, 1), 1);
        x.setWeight(0, 1, 1000);
        check.due("24: none gains, the lowest one", x.bestDouble(0, 1), 0);
        check.due("24: weights stay", x.table(0, 3), 4000);
    }

    private static void promise24NotDrawable() {
        FindTables x = Check.tables("e0,1,1,00o;e0,2,3,00;e0,1,1,00;e0,17,5,00;");
        x.setRise(0, 0);
        x.open(0);
        check.due("24: the first one is spent", x.entry(0, 0, 5), 1);
        check.due("24: the other one with the item", x.bestDouble(0, 1), 2);
        check.due("24: the same for all: the lowest one, though spent", x.bestDouble(0, 9), 0);
        x.open(0);
        FindTables one = Check.tables("e0,1,1,00;");
        check.due("24: one entry", one.bestDouble(0, 1), 0);
        check.due("24: one entry of another item", one.bestDouble(0, 2), 0);
        FindTables wanted = Check.tables("e0,1,1,00;e0,2,1,10;e0,1,1,10;");
        wanted.setLimit(1, 1);
        check.due("24: entry 0 cannot be drawn", wanted.bestDouble(0, 1), 2);
        FindTables last = Check.tables("e0,9,1,00;e0,9,1,00;e0,9,1,00;e0,9,1,00;e0,9,1,00;e0,1,1,00;");
        check.due("24: the sixth entry", last.bestDouble(0, 1), 5);
    }
}
