import java.io.IOException;
import java.io.UncheckedIOException;
import java.lang.reflect.InvocationTargetException;
import java.lang.reflect.Method;
import java.lang.reflect.Modifier;
import java.nio.file.Files;
import java.nio.file.Path;
import java.util.ArrayList;
import java.util.List;
import java.util.regex.Matcher;
import java.util.regex.Pattern;
import java.util.stream.Stream;

/** README.md: what it tells of the class is what the class answers, and it leaves nothing out. */
public final class ReadmeTest {
    private static final Check check = new Check("ReadmeTest");
    private static final Pattern BLOCK = Pattern.compile("(?s)```(\\w*)\n(.*?)```");
    private static final Pattern CALL = Pattern.compile("x\\.(\\w+)\\(([^)]*)\\); +// (throws \\w+|[-\\d.]+): .*");
    private static final int CALLS = 27;

    public static void main(String[] args) throws IOException, ReflectiveOperationException {
        String readme = Files.readString(Path.of("README.md"));
        example(blocks(readme, "java").get(0));
        text(readme);
        eachCallIsTold(readme);
        eachTestIsTold(readme);
        check.finish();
    }

    private static List<String> blocks(String readme, String kind) {
        List<String> blocks = new ArrayList<>();
        Matcher block = BLOCK.matcher(readme);
        while (block.find()) {
            if (block.group(1).equals(kind)) {
                blocks.add(block.group(2));
            }
        }
        return blocks;
    }

    private static void example(String block) throws ReflectiveOperationException {
        String[] lines = block.split("\n");
        check.dueTrue("the example's first line", lines[0].equals("FindTables x = new FindTables();"));
        FindTables x = new FindTables();
        int calls = 0;
        for (int i = 1; i < lines.length; i++) {
            if (lines[i].isEmpty()) {
                continue;
            }
            Matcher call = CALL.matcher(lines[i]);
            check.dueTrue("not a call with its answer: " + lines[i], call.matches());
            if (call.matches()) {
                String got = answer(x, call.group(1), call.group(2).isEmpty() ? new String[0] : call.group(2).split(", "));
                check.dueTrue(lines[i] + " answers " + got, got.equals(call.group(3)));
                calls++;
            }
        }
        check.due("calls of the example", calls, CALLS);
    }

    private static String answer(FindTables x, String name, String[] told) throws ReflectiveOperationException {
        Method method = methodOf(name);
        Object[] given = new Object[told.length];
        for (int i = 0; i < told.length; i++) {
            boolean flag = method.getParameterTypes()[i] == boolean.class;
            given[i] = flag ? (Object) told[i].equals("true") : (Object) Integer.valueOf(told[i]);
        }
        try {
            return String.valueOf(method.invoke(x, given));
        } catch (InvocationTargetException e) {
            return "throws " + e.getCause().getClass().getSimpleName();
        }
    }

    private static Method methodOf(String name) throws NoSuchMethodException {
        for (Method method : FindTables.class.getDeclaredMethods()) {
            if (method.getName().equals(name)) {
                return method;
            }
        }
        throw new NoSuchMethodException(name);
    }

    /** The text that README.md shows makes the tables that its example adds. */
    private static void text(String readme) {
        String text = blocks(readme, "").get(0).strip();
        FindTables parsed = Check.withText(text);
        check.due("entries of the text", parsed.parse(), 4);
        parsed.clearText();
        FindTables added = new FindTables();
        added.setDraws(0, 2);
        added.addEntry(0, 3, 90, 0, 0, false);
        added.addEntry(0, 17, 10, 0, 1, false);
        added.addEntry(1, 7, 1, 3, 0, true);
        added.addEntry(1, 5, 9, 1, 0, false);
        check.due("the tables of the text, but for the states that are saved", parsed.digest() - 1, added.digest() - 4);
    }

    private static void eachCallIsTold(String readme) {
        for (Method method : FindTables.class.getDeclaredMethods()) {
            if (Modifier.isPublic(method.getModifiers())) {
                check.dueTrue("README.md leaves out " + method.getName(), readme.contains("`" + method.getName() + "`"));
            }
        }
    }

    private static void eachTestIsTold(String readme) throws IOException {
        try (Stream<Path> files = Files.list(Path.of("src/test/java"))) {
            files.map(file -> file.getFileName().toString()).filter(name -> name.endsWith("Test.java")).forEach(name -> {
                String told = "| `" + name.substring(0, name.length() - ".java".length()) + "` |";
                check.dueTrue("README.md leaves out " + name, readme.contains(told));
            });
        } catch (UncheckedIOException e) {
            throw e.getCause();
        }
    }
}
