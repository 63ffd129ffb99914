/** Promises 25 to 27. */
public final class TextTest {
    private static final Class<IllegalArgumentException> ARGUMENT = IllegalArgumentException.class;
    private static final Class<IllegalStateException> STATE = IllegalStateException.class;
    private static final Check check = new Check("TextTest");

    public static void main(String[] args) {
        promise25Append();
        promise26ClearText();
        promise27Parse();
        promise27Keeps();
        promise27Shape();
        promise27Numbers();
        promise27TooManyDigits();
        promise27Links();
        promise27SeventhEntry();
        promise27FaultChangesNothing();
        promise27WholeText();
        promise27EachByte();
        promise27EachByteOfNumbers();
        promise27FormerText();
        promise27LastDraws();
        check.finish();
    }

    private static void promise25Append() {
        FindTables x = new FindTables();
        check.due("25: first", x.append(0), 1);
        check.due("25: second", x.append(127), 2);
        check.dueThrow("25: value -1", x, ARGUMENT, () -> x.append(-1));
        check.dueThrow("25: value 128", x, ARGUMENT, () -> x.append(128));
        for (int i = 3; i <= 160; i++) {
            check.due("25: length", x.append('d'), i);
        }
        check.dueThrow("25: full", x, STATE, () -> x.append('d'));
        check.dueThrow("25: full, value first", x, ARGUMENT, () -> x.append(128));
        check.due("25: still 160", x.clearText(), 160);
        check.dueThrow("25: not undoable", x, STATE, () -> x.undo());
    }

    private static void promise26ClearText() {
        FindTables x = Check.withText("e0,1,1,00;");
        check.due("26: length", x.clearText(), 10);
        check.due("26: empty", x.clearText(), 0);
        check.due("26: nothing is left of it", x.parse(), 0);
        check.due("26: append from the start", x.append('e'), 1);
        x.undo();
        check.due("26: undo leaves the text", x.clearText(), 1);
        check.dueThrow("26: not undoable", x, STATE, () -> x.undo());
    }

    private static void promise27Parse() {
        FindTables x = Check.withText("d02;d11;d12;e0,00,0001,00;e2,15,1000,33o;e0,17,020,02;e1,18,7,01o;d22;d21;");
        check.due("27: entries", x.parse(), 4);
        check.due("27: draws, the last ones", x.table(0, 0) * 100 + x.table(1, 0) * 10 + x.table(2, 0), 221);
        check.due("27: entries by table", x.table(0, 1) * 100 + x.table(1, 1) * 10 + x.table(2, 1), 211);
        dueEntry(x, 0, 0, 0, 1, 0, 0, 0);
        dueEntry(x, 0, 1, 17, 20, 0, 2, 0);
        dueEntry(x, 1, 0, 18, 7, 0, 1, 1);
        dueEntry(x, 2, 0, 15, 1000, 3, 3, 1);
        check.due("27: undoable", x.undo(), 0);
        check.due("27: undone", x.value(5) + x.table(0, 0), 1);
        check.due("27: the text stays", x.parse(), 4);
    }

    private static void dueEntry(FindTables x, int table, int entry, int... told) {
        for (int what = 0; what < told.length; what++) {
            check.due("27: entry " + table + " " + entry + " what " + what, x.entry(table, entry, what), told[what]);
        }
        check.due("27: not spent", x.entry(table, entry, 5), 0);
    }

    private static void promise27Keeps() {
        FindTables x = Check.withText("d02;e0,1,1,10o;");
        x.setDraws(1, 2);
        x.addEntry(1, 3, 1, 0, 0, false);
        x.setLimit(2, 7);
        x.setRise(11, -1);
        x.open(1);
        check.due("27: entries", x.parse(), 1);
        check.due("27: draws that it does not tell", x.table(1, 0), 1);
        check.due("27: the tables before are gone", x.table(1, 1), 0);
        check.due("27: finds stay", x.value(2) * 100 + x.value(3) * 10 + x.often(3), 122);
        check.due("27: luck stays", x.luck(2, true) * 100 + x.luck(2, false) * 100 + x.value(0), 811);
        x.open(0);
        check.due("27: spent", x.value(6), 1);
        check.due("27: parsed anew", x.parse(), 1);
        check.due("27: no entry is spent", x.value(6), 0);
        x.clearText();
        check.due("27: no items", x.parse(), 0);
        check.due("27: nothing is left", x.value(5) + x.table(0, 0), 1);
        check.due("27: also undoable", x.undo(), 3);
        check.due("27: undone", x.value(5) + x.table(0, 0), 3);
    }

    private static void dueFault(String text, int position) {
        check.due("27: parse of " + text, Check.withText(text).parse(), -10 - position);
    }

    private static void promise27Shape() {
        dueFault("x", 0);
        dueFault(";", 0);
        dueFault(" ", 0);
        dueFault("\u0000", 0);
        dueFault("D01;", 0);
        dueFault("d", 1);
        dueFault("d3", 1);
        dueFault("dx", 1);
        dueFault("d0", 2);
        dueFault("d00", 2);
        dueFault("d03;", 2);
        dueFault("d0;", 2);
        dueFault("d01", 3);
        dueFault("d012", 3);
        dueFault("d01;;", 4);
        dueFault("d01; d11;", 4);
        dueFault("d01;f", 4);
        dueFault("e", 1);
        dueFault("e3,1,1,00;", 1);
        dueFault("e0", 2);
        dueFault("e01", 2);
        dueFault("e0,", 3);
        dueFault("e0,,", 3);
        dueFault("e0,-1,1,00;", 3);
        dueFault("e0,1", 4);
        dueFault("e0,1;", 4);
        dueFault("e0,1 ,1,00;", 4);
        dueFault("e0,1,", 5);
        dueFault("e0,1,,", 5);
        dueFault("e0,1,1", 6);
        dueFault("e0,1,1;", 6);
        dueFault("e0,1,1,", 7);
        dueFault("e0,1,1,;", 7);
        dueFault("e0,1,1,4", 7);
        dueFault("e0,1,1,0", 8);
        dueFault("e0,1,1,0;", 8);
        dueFault("e0,1,1,04;", 8);
        dueFault("e0,1,1,00", 9);
        dueFault("e0,1,1,000;", 9);
        dueFault("e0,1,1,00O;", 9);
        dueFault("e0,1,1,00o", 10);
        dueFault("e0,1,1,00oo;", 10);
        dueFault("e0,1,1,0o;", 8);
        dueFault("e0,1,1,00;e", 11);
    }

    private static void promise27Numbers() {
        dueFault("e0,19,1,00;", 3);
        dueFault("e0,19", 3);
        dueFault("e0,19x", 3);
        dueFault("e0,99;", 3);
        dueFault("e0,1,0,00;", 5);
        dueFault("e0,1,0000,00;", 5);
        dueFault("e0,1,0", 5);
        dueFault("e0,1,00", 5);
        dueFault("e0,1,1001,00;", 5);
        dueFault("e0,1,9999", 5);
        dueFault("e0,1,9999x", 5);
        dueFault("e0,01,1001;", 6);
        check.due("27: zeros in front", Check.withText("e0,09,0009,00;").parse(), 1);
        check.due("27: greatest numbers", Check.withText("e2,15,1000,33o;").parse(), 1);
        check.due("27: least numbers", Check.withText("e0,0,1,00;").parse(), 1);
    }

    private static void promise27TooManyDigits() {
        dueFault("e0,001,1,00;", 5);
        dueFault("e0,190,1,00;", 5);
        dueFault("e1,160", 5);
        dueFault("e0,1,00001,00;", 9);
        dueFault("e0,1,99999,00;", 9);
        dueFault("e0,1,00000", 9);
        dueFault("e0,15,10000", 10);
    }

    private static void promise27Links() {
        check.due("27: links", Check.withText("e0,17,1,00;e0,18,1,00;e1,18,1,00;").parse(), 3);
        dueFault("e0,16,1,00;", 3);
        dueFault("e0,16", 3);
        dueFault("e1,16,1,00;", 3);
        dueFault("e1,17,1,00;", 3);
        dueFault("e1,17x", 3);
        dueFault("e2,16,1,00;", 3);
        dueFault("e2,17,1,00;", 3);
        dueFault("e2,18,1,00;", 3);
        dueFault("e0,17,1,10;", 8);
        dueFault("e0,17,1,3", 8);
        dueFault("e0,17,1,4", 8);
        dueFault("e0,17,1,", 8);
        check.due("27: group of a link", Check.withText("e0,17,1,03o;").parse(), 1);
    }

    private static void promise27SeventhEntry() {
        String six = "e1,1,1,00;".repeat(6);
        check.due("27: six", Check.withText(six).parse(), 6);
        dueFault(six + "e1,1,1,00;", 61);
        dueFault(six + "e1", 61);
        dueFault(six + "e", 61);
        check.due("27: a seventh of another table", Check.withText(six + "e0,1,1,00;").parse(), 7);
        check.due("27: draws of the full table", Check.withText(six + "d12;").parse(), 6);
        FindTables x = new FindTables();
        for (int i = 0; i < 6; i++) {
            x.addEntry(1, 5, 1, 0, 0, false);
        }
        Check.write(x, "e1,1,1,00;");
        check.due("27: those before the text do not count", x.parse(), 1);
    }

    private static void promise27FaultChangesNothing() {
        FindTables x = Check.tables("d02;e0,1,1,00o;e0,17,3,02;e1,4,5,00;");
        x.open(0);
        Check.write(x, "d12;e0,9,9,00;e1,9,9,00;e2,9,9,00");
        long before = x.digest();
        check.due("27: fault", x.parse(), -10 - 33);
        check.due("27: nothing changes, nothing is saved", x.digest(), before);
        x.append(';');
        check.due("27: mended", x.parse(), 3);
        check.due("27: from the new text alone", x.table(0, 1) * 100 + x.table(0, 0) * 10 + x.table(1, 0), 112);
    }

    private static void promise27WholeText() {
        String text = "e0,10,100,00;".repeat(6) + "e1,1,1,00;".repeat(6) + "e2,1,1,00;d01;d12;d21;";
        check.due("27: the test's text is full", text.length(), 160);
        check.due("27: 160 bytes", Check.withText(text).parse(), 13);
        dueFault(text.substring(0, 159), 159);
        dueFault(text.substring(0, 159) + "x", 159);
    }

    /** Behind the head just these bytes can stand; any other one is the fault. */
    private static void dueNext(String head, String right) {
        for (int b = 0; b < 128; b++) {
            FindTables x = Check.withText(head);
            x.append(b);
            int answer = x.parse();
            boolean stands = right.indexOf(b) >= 0;
            check.dueTrue("27: byte " + b + " behind " + head + " answers " + answer, stands != (answer == -10 - head.length()));
        }
        if (!head.isEmpty() && !head.endsWith(";")) {
            dueFault(head, head.length());
        }
    }

    private static void promise27EachByte() {
        String digits = "0123456789";
        dueNext("", "de");
        dueNext("d", "012");
        dueNext("d2", "12");
        dueNext("d22", ";");
        dueNext("d22;", "de");
        dueNext("e", "012");
        dueNext("e2", ",");
        dueNext("e2,", digits);
        dueNext("e2,0", digits + ",");
        dueNext("e2,1", digits + ",");
        dueNext("e2,15", ",");
        dueNext("e2,00", ",");
        dueNext("e2,15,", "123456789");
        dueNext("e2,15,1", digits + ",");
        dueNext("e2,15,10", digits + ",");
        dueNext("e2,15,100", digits + ",");
        dueNext("e2,15,1000", ",");
        dueNext("e2,15,0001", ",");
        dueNext("e2,15,1000,", "0123");
        dueNext("e2,15,1000,3", "0123");
        dueNext("e2,15,1000,33", "o;");
        dueNext("e2,15,1000,33o", ";");
        dueNext("e2,15,1000,33;", "de");
        dueNext("e2,15,1000,33o;", "de");
        dueNext("e0,17,1,", "0");
        dueNext("e0,18,1,0", "0123");
        dueNext("e1,18,1,03", "o;");
        String six = "e1,1,1,00;".repeat(6);
        dueNext(six + "e", "02");
        dueNext(six + "d", "012");
        dueNext(six.substring(10) + "e", "012");
    }

    /** A number out of its range, with each byte behind it: the first digit, unless the byte is a digit too many. */
    private static void promise27EachByteOfNumbers() {
        String[] wholes = {"e0,19", "e0,99", "e0,16", "e1,16", "e1,17", "e2,16", "e2,17", "e2,18",
            "e0,1,0000", "e0,1,1001", "e0,1,9999"};
        for (String whole : wholes) {
            int first = whole.lastIndexOf(',') + 1;
            dueFault(whole, first);
            for (int b = 0; b < 128; b++) {
                FindTables x = Check.withText(whole);
                x.append(b);
                boolean digit = b >= '0' && b <= '9';
                check.due("27: byte " + b + " behind " + whole, x.parse(), -10 - (digit ? whole.length() : first));
            }
        }
        for (String zeros : new String[] {"0", "00", "000"}) {
            for (int b = 0; b < 128; b++) {
                FindTables x = Check.withText("e0,1," + zeros);
                x.append(b);
                boolean more = b >= '1' && b <= '9';
                check.due("27: byte " + b + " behind weight " + zeros, x.parse(), -10 - (more ? 6 + zeros.length() : 5));
            }
        }
    }

    private static void promise27FormerText() {
        FindTables x = Check.withText("e0,1,1,00;e0,2,2,00;");
        check.due("27: whole", x.parse(), 2);
        x.clearText();
        check.due("27: of a text that is empty again", x.parse(), 0);
        String text = "e0,1,1,00";
        for (int i = 0; i < text.length(); i++) {
            check.due("27: the former text does not go on behind the new one", x.parse(), i == 0 ? 0 : -10 - i);
            x.append(text.charAt(i));
        }
        check.due("27: nor its last byte", x.parse(), -10 - 9);
        x.append(';');
        check.due("27: whole again", x.parse(), 1);
        FindTables full = Check.withText("d01;".repeat(40));
        check.due("27: full text", full.parse(), 0);
        full.clearText();
        Check.write(full, "d02;".repeat(39) + "d02");
        check.due("27: one byte less than the former one", full.parse(), -10 - 159);
        check.due("27: unchanged by it", full.table(0, 0), 1);
    }

    private static void promise27LastDraws() {
        FindTables x = Check.withText("d02;d01;d12;d11;d12;");
        check.due("27: no entries", x.parse(), 0);
        check.due("27: told several times: the last one", x.table(0, 0) * 100 + x.table(1, 0) * 10 + x.table(2, 0), 121);
        check.due("27: parsed twice", x.parse(), 0);
        check.due("27: the same again", x.table(0, 0) * 100 + x.table(1, 0) * 10 + x.table(2, 0), 121);
        check.due("27: each is saved", x.undo(), 1);
    }
}
