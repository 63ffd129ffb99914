/** Promises 28 and 29. */
public final class StateTest {
    private static final Class<IllegalStateException> STATE = IllegalStateException.class;
    private static final Check check = new Check("StateTest");

    public static void main(String[] args) {
        promise28Undo();
        promise28FourStates();
        promise28EverythingButTheText();
        promise28WhatIsNotUndoable();
        promise29NewObject();
        promise29ByHand();
        promise29EachPart();
        check.finish();
    }

    private static void promise28Undo() {
        FindTables x = new FindTables();
        check.dueThrow("28: no state", x, STATE, () -> x.undo());
        x.addEntry(0, 1, 5, 0, 0, false);
        x.setWeight(0, 0, 6);
        x.setWeight(0, 0, 7);
        check.due("28: two remain", x.undo(), 2);
        check.due("28: the most recent one", x.entry(0, 0, 1), 6);
        x.setWeight(0, 0, 8);
        check.due("28: saved behind it", x.undo(), 2);
        check.due("28: not the undone one", x.entry(0, 0, 1), 6);
        check.due("28: one remains", x.undo(), 1);
        check.due("28: before it", x.entry(0, 0, 1), 5);
        check.due("28: none remains", x.undo(), 0);
        check.due("28: the first state", x.value(5), 0);
        check.dueThrow("28: no state left", x, STATE, () -> x.undo());
        check.due("28: after that", x.addEntry(0, 1, 5, 0, 0, false) + x.undo(), 0);
    }

    private static void promise28FourStates() {
        FindTables x = new FindTables();
        x.addEntry(0, 1, 10, 0, 0, false);
        for (int weight = 11; weight <= 20; weight++) {
            x.setWeight(0, 0, weight);
        }
        for (int i = 1; i <= 4; i++) {
            check.due("28: remain", x.undo(), 4 - i);
            check.due("28: the oldest is dropped first", x.entry(0, 0, 1), 20 - i);
        }
        check.dueThrow("28: four at most", x, STATE, () -> x.undo());
        for (int weight = 1; weight <= 3; weight++) {
            x.setWeight(0, 0, weight);
        }
        x.undo();
        x.undo();
        x.setWeight(0, 0, 4);
        x.setWeight(0, 0, 5);
        x.setWeight(0, 0, 6);
        check.due("28: round again", x.undo(), 3);
        check.due("28: 5", x.entry(0, 0, 1), 5);
        check.due("28: 4", x.undo() + x.entry(0, 0, 1), 2 + 4);
        check.due("28: 1", x.undo() + x.entry(0, 0, 1), 1 + 1);
        check.due("28: 16", x.undo() + x.entry(0, 0, 1), 16);
    }

    private static void promise28EverythingButTheText() {
        FindTables x = Check.tables("d02;e0,1,1,30o;e0,2,3,20;e1,4,7,10;");
        x.setLimit(2, 3);
        x.setRise(7, 77);
        x.open(0);
        long before = x.digest();
        Runnable[] changes = {() -> x.setDraws(2, 2), () -> x.addEntry(1, 1, 1, 1, 1, true),
            () -> x.removeEntry(0, 0), () -> x.setWeight(0, 1, 999), () -> x.restore(),
            () -> x.setCounter(1, 99), () -> x.setLimit(3, 98), () -> x.setRise(3, 33), () -> x.open(0),
            () -> x.openOften(0, 200), () -> x.parse()};
        for (int i = 0; i < changes.length; i++) {
            changes[i].run();
            check.dueTrue("28: change " + i + " is told", x.digest() != before);
            check.due("28: undo of change " + i, x.undo(), 3);
            check.due("28: state after undo of change " + i + ", a saved state less", x.digest(), before - 1);
            x.setDraws(0, 2);
            check.due("28: state as before, as many saved states", x.digest(), before);
        }
        Check.write(x, "abc");
        x.setDraws(2, 2);
        x.append('d');
        x.undo();
        check.due("28: the text is not restored", x.clearText(), 4);
    }

    private static void promise28WhatIsNotUndoable() {
        FindTables x = Check.tables("e0,1,1,00;");
        check.due("28: parse is", x.undo(), 0);
        x.addEntry(0, 1, 1, 0, 0, false);
        x.entry(0, 0, 0);
        x.table(0, 3);
        x.luck(1, true);
        x.value(1);
        x.find(0, 0);
        x.often(0);
        x.chance(0, 0, true);
        x.chanceOf(0, 0);
        x.chanceRare(0, 0);
        x.meanFinds(0);
        x.luckyShare();
        x.soonest(0, 1);
        x.bestDouble(0, 1);
        x.append('d');
        x.parse();
        x.clearText();
        x.digest();
        check.due("28: adding alone was saved", x.undo(), 0);
        check.due("28: undone", x.value(5), 0);
    }

    private static long mix(long h, long... values) {
        long mixed = h;
        for (long v : values) {
            mixed = 31 * mixed + v;
        }
        return mixed;
    }

    private static void promise29NewObject() {
        long h = mix(3361, 0, 0, 1, 0, 0, 0, 0, 0, 0, 0, 0, 0, 0, 0, 0);
        for (int t = 0; t < 3; t++) {
            h = mix(h, 1, 0, 0, 0, 0, 0, 0, 0);
        }
        h = mix(h, 0, 0, 0, 0, 0, 0, 0, 0, 0, 0, 0, 0, 0, 0, 0, 0, 0);
        check.due("29: new object", new FindTables().digest(), h);
    }

    /**
     * 16838 modulo 104 is 94: item 2; then the link and item 2 again, with three numbers in all. The
     * counters become 0, 1 and 1.
     */
    private static void promise29ByHand() {
        FindTables x = Check.withText("xy");
        x.setDraws(0, 2);
        x.addEntry(0, 2, 100, 1, 3, true);
        x.addEntry(0, 17, 4, 0, 0, false);
        x.addEntry(1, 2, 10, 1, 0, false);
        x.setLimit(1, 9);
        x.setCounter(1, 7);
        x.setRise(10, 1);
        x.open(0);
        long h = mix(3361, 2, 10, 662824084, 1, 2, 2, 3, 1, 1, 0, 9, 1, 0, 1, 0);
        h = mix(h, 2, 2, 0, 4, 2, 100, 1, 3, 1, 1, 100, 0, 17, 4, 0, 0, 0, 0, 4, 1);
        h = mix(h, 1000000000, 1000000000, 0, 0);
        h = mix(h, 1, 1, 0, 10, 2, 10, 1, 0, 0, 0, 10, 1, 1000000000, 1000000000, 0, 0);
        h = mix(h, 1, 0, 0, 0, 0, 0, 0, 0);
        h = mix(h, 0, 0, 2, 0, 0, 0, 0, 0, 0, 0, 0, 0, 0, 0, 0, 0);
        h = mix(h, 2, 1, 1, 2, 1, 1, 4);
        check.due("29: by hand", x.digest(), h);
    }

    private static void promise29EachPart() {
        FindTables x = Check.tables("e0,1,1,00;e0,2,1,10o;");
        long before = x.digest();
        x.append('a');
        long longer = x.digest();
        check.dueTrue("29: the length of the text", longer != before);
        x.clearText();
        x.append('b');
        check.due("29: not what the text is", x.digest(), longer);
        x.clearText();
        check.due("29: again", x.digest(), before);
        x.restore();
        check.due("29: the number of saved states", x.digest(), before + 1);
        x.undo();
        x.setLimit(1, 200);
        check.dueTrue("29: limits", x.digest() != before + 1);
        x.undo();
        x.setRise(0, 2);
        check.dueTrue("29: s", x.digest() != before + 1);
    }
}
