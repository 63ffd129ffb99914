/** Promises 18 to 22. */
public final class ChancesTest {
    private static final Class<IndexOutOfBoundsException> INDEX = IndexOutOfBoundsException.class;
    private static final Class<IllegalArgumentException> ARGUMENT = IllegalArgumentException.class;
    private static final Check check = new Check("ChancesTest");

    public static void main(String[] args) {
        promise18Chance();
        promise19ChanceOf();
        promise19OnTheWay();
        promise19Wanted();
        promise20ChanceRare();
        promise21MeanFinds();
        promise22LuckyShare();
        chancesChangeNothing();
        chancesFollowTheState();
        check.finish();
    }

    private static void dueFraction(String what, FindTables x, int table, int entry, int above, int below) {
        check.due(what + ", above", x.chance(table, entry, false), above);
        check.due(what + ", below", x.chance(table, entry, true), below);
    }

    private static void promise18Chance() {
        FindTables x = Check.tables("e0,1,50,00;e0,2,30,10;e0,17,20,00;e1,3,7,00o;e2,4,1000,30;");
        dueFraction("18: 50 of 100", x, 0, 0, 1, 2);
        dueFraction("18: 30 of 100", x, 0, 1, 3, 10);
        dueFraction("18: 20 of 100", x, 0, 2, 1, 5);
        dueFraction("18: 7 of 7", x, 1, 0, 1, 1);
        x.setRise(50, -1);
        x.setCounter(1, 1);
        dueFraction("18: 45 of 115", x, 0, 1, 9, 23);
        x.setCounter(3, 200);
        dueFraction("18: 101000 of 101000", x, 2, 0, 1, 1);
        x.addEntry(2, 5, 999, 0, 0, false);
        dueFraction("18: 101000 of 101999", x, 2, 0, 101000, 101999);
        x.setLimit(1, 1);
        dueFraction("18: too common", x, 0, 0, 0, 1);
        dueFraction("18: the wanted one", x, 0, 1, 1, 1);
        dueFraction("18: a link to common ones", x, 0, 2, 0, 1);
        x.open(1);
        dueFraction("18: spent", x, 1, 0, 0, 1);
        FindTables y = Check.tables("e0,1,1,00;e0,2,2,00;e0,17,1000,00;e1,3,1,00o;d12;");
        dueFraction("18: 1 of 1003", y, 0, 0, 1, 1003);
        dueFraction("18: 1000 of 1003", y, 0, 2, 1000, 1003);
        dueFraction("18: the only one", y, 1, 0, 1, 1);
        y.open(1);
        dueFraction("18: a link to what is spent", y, 0, 2, 0, 1);
        dueFraction("18: 1 of 3", y, 0, 0, 1, 3);
        dueFraction("18: 2 of 3", y, 0, 1, 2, 3);
        dueFraction("18: the only one is spent", y, 1, 0, 0, 1);
        y.removeEntry(0, 0);
        dueFraction("18: 2 of 2", y, 0, 0, 1, 1);
        check.dueThrow("18: table without entries", y, INDEX, () -> y.chance(2, 0, true));
        check.dueThrow("18: table 3", x, INDEX, () -> x.chance(3, 0, true));
        check.dueThrow("18: table -1", x, INDEX, () -> x.chance(-1, 0, false));
        check.dueThrow("18: entry 3", x, INDEX, () -> x.chance(0, 3, true));
        check.dueThrow("18: entry -1", x, INDEX, () -> x.chance(0, -1, true));
    }

    /** First draw 333333333 and 666666666; then 111111111, 222222222, 222222222, 444444444. */
    private static void promise19ChanceOf() {
        FindTables x = Check.tables("d02;e0,0,1,00;e0,15,2,00;");
        check.due("19: item 0", x.chanceOf(0, 0), 555555555);
        check.due("19: item 15", x.chanceOf(0, 15), 888888888);
        check.due("19: no such item in it", x.chanceOf(0, 1), 0);
        check.due("19: empty table", x.chanceOf(2, 0), 0);
        x.setDraws(0, 1);
        check.due("19: one draw", x.chanceOf(0, 0), 333333333);
        x.addEntry(0, 0, 3, 0, 0, false);
        check.due("19: two entries with the item", x.chanceOf(0, 0), 166666666 + 500000000);
        FindTables same = Check.tables("d02;e0,4,1,00;");
        check.due("19: found twice is found once", same.chanceOf(0, 4), 1000000000);
        FindTables spent = Check.tables("e0,4,1,00o;");
        check.due("19: for certain", spent.chanceOf(0, 4), 1000000000);
        spent.open(0);
        check.due("19: nothing can be drawn", spent.chanceOf(0, 4), 0);
        check.dueThrow("19: table 3, item wrong too", x, INDEX, () -> x.chanceOf(3, 16));
        check.dueThrow("19: table 3", x, INDEX, () -> x.chanceOf(3, 0));
        check.dueThrow("19: table -1", x, INDEX, () -> x.chanceOf(-1, 0));
        check.dueThrow("19: item 16", x, INDEX, () -> x.chanceOf(0, 16));
        check.dueThrow("19: item -1", x, INDEX, () -> x.chanceOf(0, -1));
    }

    private static void promise19OnTheWay() {
        FindTables links = Check.tables("e0,1,1,00;e0,17,2,00;e1,2,1,00;e1,18,2,00;e2,3,1,00;e2,1,2,00;");
        check.due("19: link", links.chanceOf(0, 2), 222222222);
        check.due("19: link over a link", links.chanceOf(0, 3), 148148148);
        check.due("19: here and behind two links", links.chanceOf(0, 1), 333333333 + 296296296);
        FindTables once = Check.tables("d02;e0,1,1,00o;e0,2,2,00;");
        check.due("19: once: 1 first, or 2 and then 1", once.chanceOf(0, 1), 333333333 + 222222222);
        check.due("19: once: 2 after 1 for certain", once.chanceOf(0, 2), 333333333 + 222222222 + 444444444);
        FindTables groups = Check.tables("d02;e0,1,1,01;e0,2,1,01;e0,3,1,00;");
        check.due("19: group: 1 first, or 3 and then 1", groups.chanceOf(0, 1), 333333333 + 111111111);
        check.due("19: group: 3 for certain after 1 or 2", groups.chanceOf(0, 3), 2 * 333333333 + 3 * 111111111);
        FindTables single = Check.tables("d02;e0,1,1,01;e0,2,1,01;");
        check.due("19: nothing for the second draw", single.chanceOf(0, 1), 500000000);
    }

    private static void promise19Wanted() {
        FindTables x = Check.tables("d02;e0,1,1,00;e0,2,1,10;e0,3,1,20;");
        x.setLimit(1, 1);
        check.due("19: 1 by the second draw alone", x.chanceOf(0, 1), 2 * 166666666);
        check.due("19: 2", x.chanceOf(0, 2), 500000000 - 2 + 166666666);
        x.setLimit(2, 1);
        check.due("19: 3 is certain, then any", x.chanceOf(0, 3), 999999999);
        check.due("19: 1 after 3", x.chanceOf(0, 1), 333333333);
        FindTables y = Check.tables("e0,1,1,00;e0,2,1,10;");
        y.setRise(50, -1);
        y.setCounter(1, 4);
        check.due("19: present weights", y.chanceOf(0, 2), 750000000);
    }

    private static void promise20ChanceRare() {
        FindTables x = Check.tables("e0,1,1,00;e0,2,2,10;e0,3,3,20;e0,4,4,30;");
        check.due("20: any", x.chanceRare(0, 0), 1000000000);
        check.due("20: at least 1", x.chanceRare(0, 1), 900000000);
        check.due("20: at least 2", x.chanceRare(0, 2), 700000000);
        check.due("20: at least 3", x.chanceRare(0, 3), 400000000);
        x.setDraws(0, 2);
        check.due("20: at least 3 of two draws", x.chanceRare(0, 3), 640000000);
        check.due("20: at least 1 of two draws", x.chanceRare(0, 1), 990000000);
        check.due("20: empty table", x.chanceRare(1, 0), 0);
        FindTables y = Check.tables("e0,1,1,00;e0,17,1,00;e1,2,1,10;e1,4,3,30;");
        check.due("20: behind a link", y.chanceRare(0, 3), 375000000);
        y.setDraws(0, 2);
        check.due("20: at least 0 of two draws", y.chanceRare(0, 0), 1000000000);
        check.due("20: two rare finds count once", y.chanceRare(0, 3), 375000000 + 234375000);
        y.setLimit(3, 1);
        check.due("20: certain by the limit", y.chanceRare(0, 3), 1000000000);
        FindTables none = Check.tables("e0,17,1,00;d02;");
        check.due("20: nothing can be found", none.chanceRare(0, 0), 0);
        check.dueThrow("20: table 3, rarity wrong too", x, INDEX, () -> x.chanceRare(3, 4));
        check.dueThrow("20: table -1", x, INDEX, () -> x.chanceRare(-1, 0));
        check.dueThrow("20: rarity 4", x, ARGUMENT, () -> x.chanceRare(0, 4));
        check.dueThrow("20: rarity -1", x, ARGUMENT, () -> x.chanceRare(0, -1));
    }

    private static void promise21MeanFinds() {
        FindTables x = Check.tables("d02;e0,0,1,00;e0,15,2,00;e1,1,1,01;e1,2,3,00;");
        check.due("21: two draws, with what is lost", x.meanFinds(0), 2L * 999999999L);
        check.due("21: one draw", x.meanFinds(1), 1000000000L);
        check.due("21: empty", x.meanFinds(2), 0);
        x.removeEntry(1, 1);
        x.setDraws(1, 2);
        check.due("21: nothing for the second draw", x.meanFinds(1), 1000000000L);
        x.addEntry(1, 2, 1, 0, 0, true);
        check.due("21: two at most", x.meanFinds(1), 2000000000L);
        FindTables y = Check.tables("d02;e0,1,1,01;e0,17,1,01;e0,2,2,01;e1,5,1,00;");
        check.due("21: one of a group", y.meanFinds(0), 1000000000L);
        FindTables z = Check.tables("e0,17,1,00;d02;");
        check.due("21: nothing can be found", z.meanFinds(0), 0);
        z.addEntry(1, 1, 1, 0, 0, true);
        check.due("21: one of two draws finds something", z.meanFinds(0), 1000000000L);
        z.open(0);
        check.due("21: nothing is left", z.meanFinds(0), 0);
        check.dueThrow("21: table 3", x, INDEX, () -> x.meanFinds(3));
        check.dueThrow("21: table -1", x, INDEX, () -> x.meanFinds(-1));
    }

    private static void promise22LuckyShare() {
        FindTables x = Check.tables("d02;e0,1,1,00;e1,2,1,00;");
        check.dueDouble("22: without openings", x.luckyShare(), 0.0);
        x.open(1);
        check.dueDouble("22: one opening with a find", x.luckyShare(), 1.0);
        x.undo();
        x.open(2);
        check.dueDouble("22: without finds", x.luckyShare(), 0.0);
        x.open(0);
        check.dueDouble("22: two finds of one opening", x.luckyShare(), 0.5);
        x.open(1);
        check.dueDouble("22: 2 of 3", x.luckyShare(), 2.0 / 3.0);
        x.openOften(1, 18);
        check.dueDouble("22: the half of an opening is kept", x.luckyShare(), 20.0 / 21.0);
        x.openOften(0, 4);
        check.dueDouble("22: 12 of one and 4 of two", x.luckyShare(), 16.0 / 25.0);
        x.openOften(0, 6);
        check.dueDouble("22: 10 of two", x.luckyShare(), 10.0 / 31.0);
        x.undo();
        check.dueDouble("22: undone", x.luckyShare(), 16.0 / 25.0);
    }

    private static void chancesChangeNothing() {
        FindTables x = Check.tables("d02;e0,1,1,11o;e0,17,2,02o;e1,2,1,20o;e1,3,5,00;");
        x.setLimit(2, 1);
        x.setRise(20, 5);
        long before = x.digest();
        x.chance(0, 0, true);
        x.chanceOf(0, 1);
        x.chanceRare(0, 2);
        x.meanFinds(0);
        x.luckyShare();
        x.soonest(0, 1);
        x.bestDouble(0, 1);
        check.due("18 to 24 change nothing", x.digest(), before);
        check.due("s is the same", x.value(1), 5);
    }

    private static void chancesFollowTheState() {
        FindTables x = Check.tables("e0,1,1,00;e0,2,1,10o;e0,17,2,00;e1,3,1,20;");
        check.due("chances: first", x.chanceOf(0, 2), 250000000);
        x.setWeight(0, 0, 5);
        check.due("chances: weight", x.chanceOf(0, 2), 125000000);
        x.undo();
        check.due("chances: undo", x.chanceOf(0, 2), 250000000);
        x.setLimit(1, 1);
        check.due("chances: limit", x.chanceOf(0, 2), 333333333);
        x.setLimit(1, 0);
        x.setRise(50, -1);
        x.setCounter(1, 4);
        check.due("chances: counter and rise", x.chanceOf(0, 2), 500000000);
        x.setRise(0, -1);
        check.due("chances: rise 0", x.chanceOf(0, 2), 250000000);
        x.addEntry(0, 2, 4, 0, 0, false);
        check.due("chances: an entry more", x.chanceOf(0, 2), 625000000);
        x.removeEntry(0, 3);
        check.due("chances: an entry less", x.chanceOf(0, 2), 250000000);
        x.removeEntry(1, 0);
        check.due("chances: the table behind the link", x.chanceOf(0, 2), 500000000);
        x.setDraws(0, 2);
        check.due("chances: draws", x.chanceOf(0, 2), 750000000);
        x.openOften(0, 30);
        check.due("chances: spent", x.chanceOf(0, 2), 0);
        x.restore();
        check.due("chances: restored", x.chanceOf(0, 2), 750000000);
        x.parse();
        check.due("chances: parsed", x.chanceOf(0, 2), 0);
    }
}
