/**
 * The document's Terms, paragraph by paragraph: each sentence that names a boundary has a test here.
 * From s = 1 the numbers are 16838, 5758, 10113, 17515, 31051, 5627; from s = 0 they are 0, 21468, 9988.
 */
public final class TermsTest {
    private static final Class<IllegalStateException> STATE = IllegalStateException.class;
    private static final Check check = new Check("TermsTest");

    public static void main(String[] args) {
        tablesFull();
        onceIsSpentWhenDrawn();
        presentWeight();
        presentWeightAtItsGreatest();
        chanceGoesRound();
        numberAtTheEdgeOfAnEntry();
        numbersBelowMuch();
        drawingGroups();
        groupsDoNotMixWithOtherTables();
        groupsDoNotMixWithSpentEntries();
        drawingWanted();
        drawingOverLinks();
        oneItemBehindALink();
        openingWithNothing();
        wantedByLimit();
        wantedInTheSecondDraw();
        countersStayDuringAnOpening();
        countersAfterAnOpening();
        keptFinds();
        shares();
        undoStates();
        check.finish();
    }

    // ---- Tables

    private static void tablesFull() {
        FindTables x = new FindTables();
        for (int t = 0; t < 3; t++) {
            for (int e = 0; e < 6; e++) {
                check.due("numbered in the order in which they were added", x.addEntry(t, 6 * t % 16 + e % 3, e + 1, 0, 0, false), e);
            }
        }
        check.due("18 entries", x.value(5), 18);
        for (int t = 0; t < 3; t++) {
            int table = t;
            check.dueThrow("a seventh entry", x, STATE, () -> x.addEntry(table, 0, 1, 0, 0, false));
            check.due("weights 1 to 6", x.table(t, 3), 21);
            check.due("the first one removed", x.removeEntry(t, 0), 5);
            check.due("the number of the second one is 0 now", x.entry(t, 0, 1), 2);
            check.due("that of the last one is 4", x.entry(t, 4, 1), 6);
            check.due("the new one comes behind it", x.addEntry(t, 0, 9, 0, 0, false), 5);
            check.due("and is there", x.entry(t, 5, 1), 9);
        }
    }

    private static void onceIsSpentWhenDrawn() {
        FindTables x = Check.tables("e0,1,1,00o;e0,17,1,00o;e0,2,1,00;e1,3,1,00;");
        x.openOften(0, 30);
        check.due("an item that comes once: found once", x.often(1), 1);
        check.due("it is spent", x.entry(0, 0, 5), 1);
        check.due("a link that comes once: drawn once", x.often(3), 1);
        check.due("it is spent too", x.entry(0, 1, 5), 1);
        check.due("what it led to is not", x.entry(1, 0, 5), 0);
        check.due("an entry that comes more than once is never spent", x.entry(0, 2, 5), 0);
        check.due("and comes all other times", x.often(2), 28);
        check.due("its own table still gives what the link led to", x.open(1), 1);
        x.restore();
        x.openOften(0, 30);
        check.due("once again after restore()", x.often(1) * 10 + x.often(3), 23);
    }

    // ---- Counters

    private static FindTables risen(String text, int rise, int counter) {
        FindTables x = Check.tables(text);
        x.setRise(rise, -1);
        for (int r = 1; r <= 3; r++) {
            x.setCounter(r, counter);
        }
        return x;
    }

    private static void presentWeight() {
        check.due("1 * 199 / 100", risen("e0,1,1,10;", 33, 3).entry(0, 0, 6), 1);
        check.due("1 * 200 / 100", risen("e0,1,1,10;", 50, 2).entry(0, 0, 6), 2);
        check.due("1 * 296 / 100", risen("e0,1,1,20;", 49, 4).entry(0, 0, 6), 2);
        check.due("1 * 300 / 100", risen("e0,1,1,20;", 50, 4).entry(0, 0, 6), 3);
        check.due("3 * 133 / 100: the product is divided", risen("e0,1,3,30;", 1, 33).entry(0, 0, 6), 3);
        check.due("3 * 134 / 100", risen("e0,1,3,30;", 1, 34).entry(0, 0, 6), 4);
        check.due("rise 0", risen("e0,1,7,30;", 0, 200).entry(0, 0, 6), 7);
        check.due("counter 0", risen("e0,1,7,30;", 50, 0).entry(0, 0, 6), 7);
        check.due("rarity 0", risen("e0,1,7,00;", 50, 200).entry(0, 0, 6), 7);
        check.due("a link", risen("e0,17,7,00;", 50, 200).entry(0, 0, 6), 7);
        FindTables x = Check.tables("e0,1,10,00;e0,1,10,10;e0,1,10,20;e0,1,10,30;");
        x.setRise(50, -1);
        for (int r = 1; r <= 3; r++) {
            x.setCounter(r, r);
        }
        int[] due = {10, 15, 20, 25};
        for (int e = 0; e < 4; e++) {
            check.due("each rarity has its own counter", x.entry(0, e, 6), due[e]);
        }
        check.due("their sum", x.table(0, 3), 70);
    }

    private static void presentWeightAtItsGreatest() {
        FindTables x = risen("e0,1,1000,30;e0,2,1000,20;e0,3,1000,10;e0,4,1000,10;e0,5,1000,20;e0,6,1000,30;", 50, 200);
        check.due("1000 * 10100 / 100", x.entry(0, 5, 6), 101000);
        check.due("six of them", x.table(0, 3), 606000);
        check.due("chance, reduced", x.chance(0, 5, false) * 10 + x.chance(0, 5, true), 16);
        check.due("a sixth of a billion", x.chanceOf(0, 6), 166666666);
        check.due("all of it but what is lost", x.chanceRare(0, 1), 999999996);
    }

    // ---- Chance

    private static void chanceGoesRound() {
        FindTables x = Check.tables("e0,1,1,00;");
        int[] fromOne = {1103527590, 377401575, 662824084, 1147902781, 2035015474, 368800899};
        check.due("s is 1 at first", x.value(1), 1);
        for (int due : fromOne) {
            x.open(0);
            check.due("s modulo 2147483648", x.value(1), due);
        }
        x.setRise(0, 0);
        int[] fromZero = {12345, 1406932606, 654583775, 1449466924};
        for (int due : fromZero) {
            x.open(0);
            check.due("s from 0", x.value(1), due);
        }
        x.setRise(0, 999999);
        int[] fromGreatest = {1751684876, 836118613, 1060586090, 146785115};
        for (int due : fromGreatest) {
            x.open(0);
            check.due("s from 999999", x.value(1), due);
        }
    }

    /** The first number from s = 1 is 16838; modulo 100 it is 38. */
    private static void numberAtTheEdgeOfAnEntry() {
        FindTables x = Check.tables("e0,1,38,00;e0,2,62,00;");
        x.open(0);
        check.due("a sum of 38 is not greater than 38", x.find(0, 0), 2);
        FindTables y = Check.tables("e0,1,39,00;e0,2,61,00;");
        y.open(0);
        check.due("a sum of 39 is", y.find(0, 0), 1);
        FindTables z = Check.tables("e0,1,1,00;e0,2,37,00o;e0,3,1,00;e0,4,61,00;");
        z.open(0);
        check.due("38 is where the third one begins", z.find(0, 0), 3);
        FindTables last = Check.tables("e0,1,8,00;e0,2,1,00;");
        last.open(0);
        check.due("16838 modulo 9 is 8, the greatest number below 9", last.find(0, 0), 2);
        FindTables before = Check.tables("e0,1,9,00;e0,2,1,00;");
        before.open(0);
        check.due("16838 modulo 10 is 8, the number before it", before.find(0, 0), 1);
        FindTables zero = Check.tables("e0,1,1,00;e0,2,1000,00;");
        zero.setRise(0, 0);
        zero.open(0);
        check.due("the number 0 is the first entry's", zero.find(0, 0), 1);
        zero.open(0);
        check.due("21468 modulo 1001 is not", zero.find(0, 0), 2);
    }

    /** s / 65536 is never above 32767: entries of which the sum goes far above that come only up to there. */
    private static void numbersBelowMuch() {
        FindTables x = risen("e0,1,1000,30;e0,2,1000,00;", 50, 200);
        for (int i = 0; i < 40; i++) {
            x.setCounter(3, 200);
            x.open(0);
        }
        check.due("101000 of 102000, first", x.often(1), 40);
        FindTables y = risen("e0,2,1000,00;e0,1,1000,30;", 50, 200);
        y.open(0);
        check.due("16838 is above the first 1000", y.find(0, 0), 1);
        y.setRise(50, 0);
        y.setCounter(3, 200);
        y.open(0);
        check.due("0 is not", y.find(0, 0), 2);
    }

    // ---- Drawing from a table

    private static void drawingGroups() {
        for (int group = 1; group <= 3; group++) {
            FindTables same = Check.tables("d02;e0,1,1,0" + group + ";e0,2,1,0" + group + ";");
            check.due("two of one group: one is drawn", same.open(0), 1);
            check.due("the group is free again in the next opening", same.open(0), 1);
            check.due("and both could be drawn first", same.entry(0, 0, 7) + same.entry(0, 1, 7), 2);
            for (int other = 0; other <= 3; other++) {
                if (other != group) {
                    FindTables two = Check.tables("d02;e0,1,1,0" + group + ";e0,2,1,0" + other + ";");
                    two.openOften(0, 5);
                    check.dueTrue("groups " + group + " and " + other + ": the first is never drawn twice", two.often(1) <= 5);
                    check.due("groups " + group + " and " + other + ": two are drawn", two.value(3), 10);
                }
            }
        }
        FindTables none = Check.tables("d02;e0,1,1,00;e0,2,1000,01o;");
        none.openOften(0, 10);
        check.due("group 0 comes again and again", none.often(1), 19);
        check.due("beside the one that comes once", none.often(2), 1);
    }

    /** An entry of some group, and a link to an entry of some group of another table: both are drawn in each opening. */
    private static void groupsDoNotMixWithOtherTables() {
        for (int top = 0; top <= 1; top++) {
            for (int below = top + 1; below <= 2; below++) {
                for (int group = 1; group <= 3; group++) {
                    for (int other = 1; other <= 3; other++) {
                        String text = "d" + top + "2;e" + top + ",1,1,0" + group + ";e" + top + "," + (16 + below)
                                + ",1,00;e" + below + ",2,1,0" + other + ";";
                        FindTables x = Check.tables(text);
                        check.due("both of " + text, x.openOften(top, 12), 24);
                        check.due("each once of " + text, x.often(1), 12);
                        check.due("for certain, " + text, x.chanceOf(top, 1) + x.chanceOf(top, 2), 2000000000);
                    }
                }
            }
        }
    }

    /**
     * First the item 15 (a half), then the link; or first the link to one of six items (83333333 each),
     * then again the item 15 or the link. No entry that was drawn and no group may be taken for another.
     */
    private static void groupsDoNotMixWithSpentEntries() {
        for (int top = 0; top <= 1; top++) {
            for (int below = top + 1; below <= 2; below++) {
                for (int group = 1; group <= 3; group++) {
                    String head = "d" + top + "2;e" + top + ",15,1,0" + group + ";e" + top + "," + (16 + below) + ",1,00;";
                    FindTables x = Check.tables(head + six(below, ""));
                    FindTables once = Check.tables(head + six(below, "o"));
                    for (int item = 1; item <= 6; item++) {
                        check.due("a group is no spent entry, " + head + item, x.chanceOf(top, item),
                                83333333 + 41666666 + 6 * 6944444 + 5 * 6944444);
                    }
                    check.due("a spent entry is no group, " + head, once.chanceOf(top, 15), 6 * 83333333 + 6 * 41666666);
                }
            }
        }
        for (int group = 1; group <= 3; group++) {
            FindTables own = Check.tables("d02;e0,15,1,0" + group + ";e0,1,1,00o;e0,2,1,00o;e0,3,1,00o;e0,4,1,00o;e0,5,1,00o;");
            check.due("nor one of the same table", own.chanceOf(0, 15), 5 * 33333333 + 5 * 33333333);
        }
    }

    private static String six(int table, String once) {
        StringBuilder text = new StringBuilder();
        for (int item = 1; item <= 6; item++) {
            text.append("e").append(table).append(",").append(item).append(",1,00").append(once).append(";");
        }
        return text.toString();
    }

    private static void drawingWanted() {
        FindTables x = Check.tables("e0,1,1,00;e0,2,1,10;e0,3,1,20;e0,4,1,30;");
        for (int q = 1; q <= 3; q++) {
            x.setLimit(q, 1);
            for (int rarity = 0; rarity <= 3; rarity++) {
                check.due("rarity " + rarity + " with " + q + " wanted", x.entry(0, rarity, 7), rarity >= q ? 1 : 0);
            }
            check.due("sum with " + q + " wanted", x.table(0, 3), 4 - q);
            x.setLimit(q, 0);
        }
        check.due("none wanted", x.table(0, 3), 4);
    }

    private static void drawingOverLinks() {
        FindTables x = Check.tables("e0,17,1,00;e0,18,1,00;e1,18,1,00;e1,1,1,20;e2,2,1,30o;");
        x.setLimit(3, 1);
        check.due("both links lead to rarity 3", x.table(0, 3), 2);
        check.due("in table 1 only the link does", x.table(1, 3), 1);
        x.open(2);
        check.due("rarity 3 is spent", x.table(0, 2), 0);
        check.due("the link to table 2 leads to nothing", x.entry(0, 1, 7), 0);
        check.due("the other one still to an item", x.entry(0, 0, 7), 1);
        x.setLimit(2, 1);
        check.due("rarity 2 behind the first link", x.table(0, 2) * 10 + x.table(0, 3), 21);
        x.removeEntry(1, 1);
        check.due("a link to links that lead to nothing", x.table(0, 2) * 10 + x.table(0, 3), 0);
        check.due("nothing can be drawn", x.open(0), 0);
        FindTables links = Check.tables("e0,17,1,00;e0,18,1,00;e1,18,1,00;");
        int s = links.value(1);
        check.due("links alone", links.open(0) + links.table(0, 3) + links.table(1, 3), 0);
        check.due("draw no number", links.value(1), s);
        check.due("and make no link drawn", links.value(6), 0);
    }

    /** The draws of a table count when it is opened itself, not behind a link. */
    private static void oneItemBehindALink() {
        FindTables x = Check.tables("d12;d22;e0,17,1,00;e1,18,1,00;e2,1,1,00;");
        check.due("one item", x.open(0), 1);
        check.due("three numbers", x.value(1), 662824084);
        check.due("for certain", x.meanFinds(0), 1000000000L);
        check.due("two when table 1 itself is opened", x.open(1), 2);
        check.due("two of table 1", x.meanFinds(1), 2000000000L);
    }

    // ---- Opening a table

    private static void openingWithNothing() {
        FindTables x = Check.tables("d02;e0,1,1,00o;");
        check.due("the second draw finds nothing", x.open(0), 1);
        check.due("one number", x.value(1), 1103527590);
        check.due("nothing is left", x.open(0), 0);
        check.due("no number", x.value(1), 1103527590);
        check.due("it is an opening all the same", x.value(2), 2);
        check.due("the counters count it", x.luck(1, false), 2);
        check.due("it is undoable", x.undo(), 2);
        check.due("undone", x.value(2) * 10 + x.luck(3, false), 11);
    }

    private static FindTables withLimit(int rarity, int limit, int counter) {
        FindTables x = Check.tables("e0,1,1,00;e0,2,1,10;e0,3,1,20;e0,4,1,30;");
        x.setLimit(rarity, limit);
        x.setCounter(rarity, counter);
        return x;
    }

    private static void wantedByLimit() {
        for (int r = 1; r <= 3; r++) {
            check.due("limit 0 is none, even with counter 200", withLimit(r, 0, 200).table(0, 2), 0);
            check.due("limit 1 with counter 0", withLimit(r, 1, 0).table(0, 2), r);
            check.due("limit 2 with counter 0", withLimit(r, 2, 0).table(0, 2), 0);
            check.due("limit 2 with counter 1", withLimit(r, 2, 1).table(0, 2), r);
            check.due("limit 200 with counter 198", withLimit(r, 200, 198).table(0, 2), 0);
            check.due("limit 200 with counter 199", withLimit(r, 200, 199).table(0, 2), r);
            check.due("limit 200 with counter 200", withLimit(r, 200, 200).table(0, 2), r);
            check.due("limit 1 with counter 200", withLimit(r, 1, 200).table(0, 2), r);
        }
        FindTables x = withLimit(2, 3, 0);
        int[] due = {0, 0, 2};
        for (int i = 0; i < 3; i++) {
            check.due("wanted in opening " + (i + 1) + " without a find of rarity 2", x.table(0, 2), due[i]);
            x.open(1);
        }
        x.open(0);
        check.dueTrue("found", x.find(0, 1) >= 2);
        check.due("the counter begins anew", x.luck(2, false), 0);
        check.due("no longer wanted", x.table(0, 2), 0);
    }

    private static void wantedInTheSecondDraw() {
        for (int r = 1; r <= 3; r++) {
            FindTables x = Check.tables("d02;e0,1,1000,00;e0,2,1,10;e0,3,1,20;e0,4,1,30;");
            x.setLimit(r, 1);
            for (int i = 0; i < 10; i++) {
                x.open(0);
                check.dueTrue("the first draw has at least rarity " + r, x.find(1, 1) >= r);
            }
            check.dueTrue("the second one is free", x.often(1) > 0);
        }
        FindTables all = Check.tables("d02;e0,1,1000,00;e0,2,1000,10;e0,3,1000,20;e0,4,1,30;");
        for (int r = 1; r <= 3; r++) {
            all.setLimit(r, 1);
        }
        check.due("the greatest one is found first", all.open(0) * 10 + all.find(1, 1), 23);
        check.due("chance of it", all.chanceRare(0, 3), 1000000000 - 1);
        check.due("then any: 1000 of 3001", all.chanceOf(0, 1), 333222259);
    }

    /** Weights 200 and 100: both 16838 and 5758 modulo 300 (38 and 58) are below 200; 5758 modulo 200 is 158. */
    private static void countersStayDuringAnOpening() {
        FindTables x = Check.tables("d02;e0,1,100,10;e0,2,100,00;");
        x.setRise(50, -1);
        x.setCounter(1, 2);
        check.due("chance with the same weights twice", x.chanceOf(0, 1), 444444444 + 222222222 + 222222222);
        check.due("two", x.open(0), 2);
        check.due("the first one", x.find(1, 0), 1);
        check.due("the second one with the same weights", x.find(0, 0), 1);
        check.due("the counter becomes 0 at the end", x.luck(1, false), 0);
        check.due("then the weights are alike", x.chanceOf(0, 1), 750000000);
    }

    private static void countersAfterAnOpening() {
        for (int found = 0; found <= 3; found++) {
            FindTables x = Check.tables("e0,1,1," + found + "0;");
            x.setCounter(1, 0);
            x.setCounter(2, 199);
            x.setCounter(3, 200);
            x.open(0);
            check.due("found " + found + ": counter 1", x.luck(1, false), found >= 1 ? 0 : 1);
            check.due("found " + found + ": counter 2", x.luck(2, false), found >= 2 ? 0 : 200);
            check.due("found " + found + ": counter 3", x.luck(3, false), found >= 3 ? 0 : 200);
        }
        FindTables two = Check.tables("d02;e0,1,1,31;e0,2,1,12;");
        two.open(0);
        check.due("the rarest of two finds", two.luck(1, false) + two.luck(2, false) + two.luck(3, false), 0);
        FindTables often = Check.tables("e0,1,1,20;");
        often.openOften(1, 200);
        often.openOften(1, 1);
        check.due("not above 200", often.luck(1, false) + often.luck(2, false) + often.luck(3, false), 600);
        often.openOften(0, 2);
        check.due("found twice", often.luck(1, false) + often.luck(2, false), 0);
        check.due("still 200", often.luck(3, false), 200);
    }

    private static void keptFinds() {
        FindTables x = Check.tables("e0,1,1,00;e1,2,1,30;");
        x.open(1);
        check.due("the first opening has the number 1", x.find(0, 2), 1);
        x.openOften(0, 18);
        check.due("19 are kept", x.value(4) * 100 + x.find(18, 0), 1902);
        check.due("no twentieth", x.find(19, 0), -1);
        x.open(0);
        check.due("20 are kept", x.value(4) * 100 + x.find(19, 0), 2002);
        x.open(0);
        check.due("the first one is dropped", x.value(4) * 100 + x.find(19, 0), 2001);
        check.due("no more than 20", x.find(20, 0) + x.find(20, 1) + x.find(20, 2), -3);
        check.due("all of them are counted", x.value(3) * 10 + x.often(2), 211);
        x.undo();
        check.due("undo brings it back", x.find(19, 0) * 10 + x.find(19, 2), 21);
        x.openOften(0, 200);
        check.due("numbers of the openings", x.find(0, 2) * 1000 + x.find(19, 2), 220201);
        x.openOften(2, 5);
        check.due("openings without finds keep the finds", x.find(0, 2), 220);
    }

    // ---- Chances in billionths

    private static void shares() {
        FindTables x = Check.tables("d02;e0,1,1,00;e0,2,1,00;e0,3,1,00;e0,4,4,00;");
        check.due("142857142 thrice, 571428571", x.chanceOf(0, 4), 571428571 + 3 * 81632652);
        check.due("what is lost by rounding belongs to no entry", x.chanceRare(0, 0),
                3 * (3 * 20408163 + 81632652) + 3 * 81632653 + 326530612);
        FindTables link = Check.tables("e0,17,1,00;e0,17,2,00;e1,1,1,00;e1,2,2,00;");
        check.due("rounded at each entry on the way", link.chanceOf(0, 1), 111111111 + 222222222);
        check.due("twice", link.chanceOf(0, 2), 222222222 + 444444444);
        FindTables one = Check.tables("d02;e0,1,1,00;");
        one.setRise(0, 5);
        check.due("for certain", one.chanceOf(0, 1), 1000000000);
        one.setRise(0, 999999);
        check.due("s does not matter", one.chanceOf(0, 1), 1000000000);
        check.due("the greatest mean", one.meanFinds(0), 2000000000L);
    }

    // ---- Undo

    private static void undoStates() {
        FindTables x = Check.tables("e0,1,1,00;");
        check.due("one", x.undo(), 0);
        Runnable[] unchanging = {() -> x.setDraws(0, 1), () -> x.restore(), () -> x.setCounter(1, 0),
            () -> x.setLimit(3, 0), () -> x.setRise(0, -1), () -> x.setRise(0, 1), () -> x.parse()};
        for (Runnable call : unchanging) {
            long before = x.digest();
            call.run();
            check.due("saved though nothing changes", x.digest(), before + 1);
            check.due("one state", x.undo(), 0);
            check.due("as before", x.digest(), before);
        }
        for (int i = 1; i <= 6; i++) {
            x.setCounter(1, i);
            check.due("at most four states", x.digest() - withoutStates(x, i), Math.min(4, i));
        }
        check.due("the sixth undone", x.undo() * 10 + x.luck(1, false), 35);
        check.due("the fifth", x.undo() * 10 + x.luck(1, false), 24);
        check.due("the fourth", x.undo() * 10 + x.luck(1, false), 13);
        check.due("the third", x.undo() * 10 + x.luck(1, false), 2);
        check.dueThrow("the first two states were dropped", x, STATE, () -> x.undo());
    }

    /** The digest of an object with the same counter but no saved state. */
    private static long withoutStates(FindTables x, int counter) {
        FindTables y = new FindTables();
        y.setCounter(1, counter);
        y.setCounter(1, counter);
        y.undo();
        return y.digest() - 1;
    }
}
