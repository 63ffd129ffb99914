import java.lang.reflect.InvocationTargetException;
import java.lang.reflect.Method;

/**
 * Every argument of every call: its least and its greatest value are taken; the one below, the one
 * above and the farthest ones are refused with the exception that is due, the one that is listed
 * first if several are, and a refused call changes nothing, neither what is saved nor the text.
 */
public final class RangesTest {
    private static final Check check = new Check("RangesTest");
    private static final String INDEX = "IndexOutOfBoundsException";
    private static final String ARGUMENT = "IllegalArgumentException";
    private static final String STATE = "IllegalStateException";
    private static final String NOTHING = "nothing";

    /** An argument: its right value in the other arguments' tests, its range, what is due outside of it. */
    private record Arg(int usual, int least, int greatest, String kind) {
        boolean refuses(int v) {
            return v < least || v > greatest;
        }
    }

    private static final Arg TABLE = new Arg(1, 0, 2, INDEX);
    private static final Arg ENTRY = new Arg(3, 0, 4, INDEX);
    private static final Arg ITEM = new Arg(2, 0, 15, INDEX);
    private static final Arg WHAT = new Arg(5, 0, 15, ARGUMENT);
    private static final Arg WEIGHT = new Arg(7, 1, 1000, ARGUMENT);
    private static final Arg COUNTED = new Arg(2, 1, 3, INDEX);
    private static final Arg FLAG = new Arg(1, 0, 1, NOTHING);

    private static Arg number(int least, int greatest) {
        return new Arg(least, least, greatest, ARGUMENT);
    }

    private static String reference;

    public static void main(String[] args) throws ReflectiveOperationException {
        reference = allThatCanBeTold(made());
        call("setDraws", TABLE, number(1, 2));
        call("addEntry", TABLE, WHAT, WEIGHT, number(0, 3), number(0, 3), FLAG);
        call("removeEntry", TABLE, ENTRY);
        call("setWeight", TABLE, ENTRY, WEIGHT);
        call("entry", TABLE, ENTRY, number(0, 7));
        call("table", TABLE, number(0, 3));
        call("setCounter", COUNTED, number(0, 200));
        call("setLimit", COUNTED, number(0, 200));
        call("setRise", number(0, 50), number(-1, 999999));
        call("luck", COUNTED, FLAG);
        call("value", number(0, 7));
        call("open", TABLE);
        call("openOften", TABLE, number(1, 200));
        call("find", number(0, Integer.MAX_VALUE), number(0, 2));
        call("often", ITEM);
        call("chance", TABLE, ENTRY, FLAG);
        call("chanceOf", TABLE, ITEM);
        call("chanceRare", TABLE, number(0, 3));
        call("meanFinds", TABLE);
        call("soonest", TABLE, ITEM);
        call("bestDouble", TABLE, ITEM);
        call("append", number(0, 127));
        whatIsNeverRefused();
        linksByTable();
        rarityOfALink();
        fullTable();
        fullText();
        nothingSaved();
        check.finish();
    }

    /** Five entries in each table, some spent, finds, luck, four saved states, and a text. */
    private static FindTables made() {
        FindTables x = Check.tables("d02;e0,1,5,10o;e0,2,6,21;e0,17,7,01;e0,18,8,02o;e0,3,9,30;e1,4,1,00;e1,18,2,03;"
                + "e1,5,3,11o;");
        x.addEntry(1, 6, 4, 2, 0, true);
        x.addEntry(1, 7, 5, 3, 2, false);
        for (int i = 0; i < 5; i++) {
            x.addEntry(2, 8 + i, 10 + i, i % 4, i % 3, i > 2);
        }
        x.setLimit(2, 4);
        x.setCounter(2, 3);
        x.setRise(9, 4711);
        x.openOften(0, 3);
        x.setCounter(1, 6);
        Check.write(x, "d12;e2,9,1000,33o;");
        return x;
    }

    /** Tells the state, the saved states from the latest one, and what the text is; nothing of it stays. */
    private static String allThatCanBeTold(FindTables x) {
        StringBuilder told = new StringBuilder().append(x.digest());
        for (int i = 0; i < 4; i++) {
            told.append(' ').append(x.undo()).append(' ').append(x.digest());
        }
        told.append(' ').append(x.parse()).append(' ').append(x.digest());
        return told.append(' ').append(x.clearText()).toString();
    }

    private static void call(String name, Arg... args) throws ReflectiveOperationException {
        for (int i = 0; i < args.length; i++) {
            for (int v : new int[] {args[i].least, args[i].greatest}) {
                int[] values = usual(args);
                values[i] = v;
                check.dueTrue(told(name, values) + " is refused", thrown(made(), name, values).equals(NOTHING));
            }
            for (int v : beyond(args[i])) {
                int[] values = usual(args);
                values[i] = v;
                dueRefused(name, values, args[i].kind);
                for (int k = i + 1; k < args.length; k++) {
                    for (int w : beyond(args[k])) {
                        values[k] = w;
                        dueRefused(name, values, first(args[i].kind, args[k].kind));
                    }
                    values[k] = args[k].usual;
                }
            }
        }
        allWrong(name, args);
    }

    private static void allWrong(String name, Arg... args) throws ReflectiveOperationException {
        int[] values = usual(args);
        String kind = NOTHING;
        for (int i = 0; i < args.length; i++) {
            int[] beyond = beyond(args[i]);
            values[i] = beyond.length > 0 ? beyond[beyond.length - 1] : values[i];
            kind = beyond.length > 0 ? first(kind, args[i].kind) : kind;
        }
        dueRefused(name, values, kind);
    }

    private static String first(String a, String b) {
        return a.equals(INDEX) || b.equals(INDEX) ? INDEX : ARGUMENT;
    }

    private static int[] usual(Arg[] args) {
        int[] values = new int[args.length];
        for (int i = 0; i < args.length; i++) {
            values[i] = args[i].usual;
        }
        return values;
    }

    private static int[] beyond(Arg arg) {
        if (arg == FLAG) {
            return new int[0];
        }
        int[] candidates = {arg.least - 1, arg.greatest + 1, Integer.MIN_VALUE, Integer.MAX_VALUE};
        int count = 0;
        for (int v : candidates) {
            if (arg.refuses(v)) {
                candidates[count++] = v;
            }
        }
        return java.util.Arrays.copyOf(candidates, count);
    }

    private static void dueRefused(String name, int[] values, String kind) throws ReflectiveOperationException {
        FindTables x = made();
        String thrown = thrown(x, name, values);
        check.dueTrue(told(name, values) + " throws " + thrown + ", due is " + kind, thrown.equals(kind));
        check.dueTrue(told(name, values) + " changes something", allThatCanBeTold(x).equals(reference));
    }

    private static String told(String name, int[] values) {
        return name + java.util.Arrays.toString(values);
    }

    private static String thrown(FindTables x, String name, int[] values) throws ReflectiveOperationException {
        for (Method method : FindTables.class.getDeclaredMethods()) {
            if (method.getName().equals(name)) {
                return thrown(x, method, values);
            }
        }
        throw new NoSuchMethodException(name);
    }

    private static String thrown(FindTables x, Method method, int[] values) throws ReflectiveOperationException {
        Class<?>[] types = method.getParameterTypes();
        Object[] given = new Object[types.length];
        for (int i = 0; i < types.length; i++) {
            given[i] = types[i] == boolean.class ? (Object) (values[i] == 1) : (Object) values[i];
        }
        try {
            method.invoke(x, given);
            return NOTHING;
        } catch (InvocationTargetException e) {
            return e.getCause().getClass().getSimpleName();
        }
    }

    private static void whatIsNeverRefused() throws ReflectiveOperationException {
        for (String name : new String[] {"restore", "luckyShare", "clearText", "parse", "undo", "digest"}) {
            check.dueTrue(name + " is refused", thrown(made(), name, new int[0]).equals(NOTHING));
            boolean undo = name.equals("undo");
            check.due(name + " of a new object is refused", thrown(new FindTables(), name, new int[0]).equals(STATE) ? 1 : 0,
                    undo ? 1 : 0);
        }
    }

    /** Of the links only those to a higher table are taken. */
    private static void linksByTable() throws ReflectiveOperationException {
        for (int table = 0; table < 3; table++) {
            for (int what = 15; what <= 19; what++) {
                int[] values = {table, what, 1, 0, 0, 0};
                boolean fits = what == 15 || what <= 18 && what - 16 > table;
                if (fits) {
                    FindTables x = made();
                    check.dueTrue(told("addEntry", values) + " is refused", thrown(x, "addEntry", values).equals(NOTHING));
                    check.due(told("addEntry", values) + ", what", x.entry(table, 5, 0), what);
                } else {
                    dueRefused("addEntry", values, ARGUMENT);
                }
            }
        }
    }

    private static void rarityOfALink() throws ReflectiveOperationException {
        for (int rarity = -1; rarity <= 4; rarity++) {
            int[] values = {0, 17, 1, rarity, 3, 1};
            if (rarity == 0) {
                check.dueTrue("a link with rarity 0 is refused", thrown(made(), "addEntry", values).equals(NOTHING));
            } else {
                dueRefused("addEntry", values, ARGUMENT);
            }
        }
    }

    /** In a full table a wrong argument comes first; a table's last entry is taken by every call, the one behind it by none. */
    private static void fullTable() throws ReflectiveOperationException {
        for (int table = 0; table < 3; table++) {
            FindTables x = made();
            x.addEntry(table, 3, 1000, 0, 0, false);
            check.due("six entries", x.table(table, 1), 6);
            int[][] wrong = {{3, 1, 1, 0, 0, 0}, {-1, 1, 1, 0, 0, 0}, {table, 16, 1, 0, 0, 0}, {table, -1, 1, 0, 0, 0},
                {table, 1, 0, 0, 0, 0}, {table, 1, 1001, 0, 0, 0}, {table, 1, 1, 4, 0, 0}, {table, 1, 1, 0, 4, 0},
                {table, 1, 1, 0, 0, 0}};
            long before = x.digest();
            for (int i = 0; i < wrong.length; i++) {
                String due = i < 2 ? INDEX : i < wrong.length - 1 ? ARGUMENT : STATE;
                check.dueTrue("full table " + table + ": " + told("addEntry", wrong[i]), thrown(x, "addEntry", wrong[i]).equals(due));
                check.due("full table " + table + ": nothing changes", x.digest(), before);
            }
            dueSixthAlone(x, "entry", table, 0);
            dueSixthAlone(x, "setWeight", table, 1);
            dueSixthAlone(x, "chance", table, 1);
            dueSixthAlone(x, "removeEntry", table, 0);
            check.due("room again", x.addEntry(table, 1, 1, 0, 0, false), 5);
        }
    }

    private static void dueSixthAlone(FindTables x, String name, int table, int last) throws ReflectiveOperationException {
        int[] seventh = {table, 6, last};
        check.dueTrue(told(name, seventh) + " in a full table", thrown(x, name, seventh).equals(INDEX));
        int[] sixth = {table, 5, last};
        check.dueTrue(told(name, sixth) + " in a full table is refused", thrown(x, name, sixth).equals(NOTHING));
    }

    private static void fullText() {
        FindTables x = new FindTables();
        Check.write(x, "e1,1,1,00;".repeat(2));
        for (int i = 0; i < 35; i++) {
            Check.write(x, "d01;");
        }
        check.dueThrow("text of 160", x, IllegalStateException.class, () -> x.append('d'));
        check.dueThrow("text of 160, value 128", x, IllegalArgumentException.class, () -> x.append(128));
        check.dueThrow("text of 160, value -1", x, IllegalArgumentException.class, () -> x.append(-1));
        check.due("the refused bytes are not in it", x.parse(), 2);
        check.due("nor counted", x.clearText(), 160);
        check.due("room again", x.append('d'), 1);
    }

    private static void nothingSaved() {
        FindTables x = Check.withText("d01;");
        check.dueThrow("nothing saved", x, IllegalStateException.class, () -> x.undo());
        check.due("the text is as it was", x.parse(), 0);
        check.due("one state", x.undo(), 0);
        check.dueThrow("none again", x, IllegalStateException.class, () -> x.undo());
        check.due("one again", x.restore() + x.undo(), 0);
    }
}
