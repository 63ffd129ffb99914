import java.lang.reflect.InvocationTargetException;
import java.lang.reflect.Method;
import java.util.Arrays;
import java.util.Random;

/** Long runs of calls, right and wrong ones mixed, each answer compared with the model's. */
public final class ModelTest {
    private static final int RUNS = 500;
    /** Of the 512 calls for which something is promised the last one is the digest at the end. */
    private static final int CALLS = 511;
    private static final int CALLS_OF_A_TEXT = 162;
    private static final int TEXTS = 60000;
    /** Those that are told several times are called more often. */
    private static final String[] NAMES = {"setDraws", "addEntry", "addEntry", "addEntry", "removeEntry", "setWeight",
        "restore", "entry", "table", "table", "setCounter", "setLimit", "setRise", "luck", "value", "open", "open",
        "open", "openOften", "find", "often", "chance", "chanceOf", "chanceRare", "chanceRare", "meanFinds",
        "luckyShare", "soonest", "bestDouble", "append", "write", "parse", "undo", "undo", "digest"};
    private static final int[] FAR = {Integer.MIN_VALUE, Integer.MIN_VALUE + 1, -1000000000, -65536, 65536, 1 << 30,
        Integer.MAX_VALUE - 1, Integer.MAX_VALUE};
    private static final Check check = new Check("ModelTest");

    public static void main(String[] args) throws ReflectiveOperationException {
        for (int run = 0; run < RUNS; run++) {
            oneRun(run);
        }
        manyTexts();
        everyByteEverywhere();
        check.finish();
    }

    private static void oneRun(int run) throws ReflectiveOperationException {
        Random random = new Random(run);
        FindTables x = new FindTables();
        Model m = new Model();
        boolean linked = run % 4 != 0;
        StringBuilder calls = new StringBuilder();
        for (int done = 0; done < CALLS; done++) {
            String name = NAMES[random.nextInt(NAMES.length)];
            if (name.equals("write") && done + CALLS_OF_A_TEXT <= CALLS) {
                String text = TextMaker.make(random);
                write(text, x, m, calls);
                done += 1 + text.length();
            }
            name = name.equals("write") ? "parse" : name;
            int[] a = arguments(random, m, name, linked);
            if (a.length > 0 && random.nextInt(25) == 0) {
                a[random.nextInt(a.length)] = FAR[random.nextInt(FAR.length)];
            }
            calls.append(name).append(Arrays.toString(a)).append(' ');
            String got = answer(x, name, a);
            String want = answer(m, name, a);
            check.dueTrue("run " + run + ": got " + got + ", due " + want + ", after " + calls, got.equals(want));
            if (!got.equals(want)) {
                return;
            }
        }
        check.due("run " + run + ", digest at the end", x.digest(), m.digest());
    }

    private static void write(String text, FindTables x, Model m, StringBuilder calls) {
        x.clearText();
        Check.write(x, text);
        m.clearText();
        m.text.append(text);
        calls.append("text ").append(text).append(' ');
    }

    private static String answer(Object on, String name, int[] a) throws ReflectiveOperationException {
        Method method = methodOf(on.getClass(), name);
        Class<?>[] types = method.getParameterTypes();
        Object[] given = new Object[types.length];
        for (int i = 0; i < types.length; i++) {
            given[i] = types[i] == boolean.class ? (Object) (a[i] == 1) : (Object) a[i];
        }
        try {
            return String.valueOf(method.invoke(on, given));
        } catch (InvocationTargetException e) {
            return e.getCause().getClass().getSimpleName();
        }
    }

    private static Method methodOf(Class<?> c, String name) throws NoSuchMethodException {
        for (Method method : c.getDeclaredMethods()) {
            if (method.getName().equals(name)) {
                return method;
            }
        }
        throw new NoSuchMethodException(name);
    }

    private static int[] arguments(Random random, Model m, String name, boolean linked) {
        int t = mostly(random, 0, 2);
        int e = mostly(random, 0, Math.max(0, t >= 0 && t <= 2 ? m.table(t, 1) - 1 : 0));
        int item = mostly(random, 0, 5);
        int r = mostly(random, 1, 3);
        int flag = random.nextInt(2);
        switch (name) {
            case "setDraws":
                return new int[] {t, mostly(random, 1, 2)};
            case "addEntry":
                int what = linked && random.nextInt(3) == 0 ? 16 + random.nextInt(3) : item;
                int rarity = what >= 16 && random.nextInt(14) > 0 ? 0 : mostly(random, 0, 3);
                return new int[] {t, what, weight(random), rarity, mostly(random, 0, 3), flag};
            case "removeEntry":
                return new int[] {t, e};
            case "setWeight":
                return new int[] {t, e, weight(random)};
            case "entry":
                return new int[] {t, e, mostly(random, 0, 7)};
            case "table": case "chanceRare":
                return new int[] {t, mostly(random, 0, 3)};
            case "setCounter":
                return new int[] {r, mostly(random, 0, random.nextBoolean() ? 4 : 200)};
            case "setLimit":
                return new int[] {r, mostly(random, 0, random.nextInt(6) > 0 ? 5 : 200)};
            case "setRise":
                return new int[] {mostly(random, 0, 50), random.nextBoolean() ? -1 : mostly(random, 0, 999999)};
            case "luck":
                return new int[] {r, flag};
            case "value":
                return new int[] {mostly(random, 0, 7)};
            case "open": case "meanFinds":
                return new int[] {t};
            case "openOften":
                return new int[] {t, mostly(random, 1, random.nextInt(6) > 0 ? 30 : 200)};
            case "find":
                return new int[] {mostly(random, 0, 20), mostly(random, 0, 2)};
            case "often":
                return new int[] {mostly(random, 0, 15)};
            case "chance":
                return new int[] {t, e, flag};
            case "chanceOf": case "soonest": case "bestDouble":
                return new int[] {t, random.nextInt(8) > 0 ? item : mostly(random, 0, 15)};
            case "append":
                return new int[] {mostly(random, 0, 127)};
            default:
                return new int[0];
        }
    }

    private static int mostly(Random random, int least, int greatest) {
        int slack = random.nextInt(14) == 0 ? 2 : 0;
        return least - slack + random.nextInt(greatest - least + 1 + 2 * slack);
    }

    private static int weight(Random random) {
        switch (random.nextInt(8)) {
            case 0:
                return 1000;
            case 1:
                return mostly(random, 1, 1000);
            default:
                return mostly(random, 1, 9);
        }
    }

    private static void manyTexts() {
        Random random = new Random(99);
        FindTables x = new FindTables();
        Model m = new Model();
        int whole = 0;
        for (int i = 0; i < TEXTS; i++) {
            String text = TextMaker.make(random);
            write(text, x, m, new StringBuilder());
            int want = m.parse();
            whole += want >= 0 ? 1 : 0;
            check.due("parse of " + text, x.parse(), want);
            if (want >= 0 && i % 10 == 0) {
                check.due("digest after " + text, x.digest(), m.digest());
            }
        }
        check.dueTrue("enough of the texts are right ones, and enough wrong ones: " + whole,
                whole > TEXTS / 5 && whole < TEXTS * 4 / 5);
    }

    /** Each byte put at each place of a text, and in the stead of each of its bytes. */
    private static void everyByteEverywhere() {
        FindTables x = new FindTables();
        Model m = new Model();
        String[] texts = {"e0,17,1000,03o;d12;", "e1,9,1001,00;", "e2,18,07,31;e2", "e0,1,1,00;".repeat(6) + "d01;e0,19"};
        for (String text : texts) {
            for (int place = 0; place <= text.length(); place++) {
                for (int b = 0; b < 128; b++) {
                    String head = text.substring(0, place) + (char) b;
                    dueParse(head + text.substring(place), x, m);
                    dueParse(head + text.substring(Math.min(text.length(), place + 1)), x, m);
                }
            }
        }
    }

    private static void dueParse(String text, FindTables x, Model m) {
        write(text, x, m, new StringBuilder());
        check.due("parse of " + text, x.parse(), m.parse());
    }
}
