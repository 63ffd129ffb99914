import java.io.IOException;
import java.lang.reflect.Constructor;
import java.lang.reflect.Field;
import java.lang.reflect.Method;
import java.lang.reflect.Modifier;
import java.nio.file.Files;
import java.nio.file.Path;
import java.util.Arrays;
import java.util.HashSet;
import java.util.Set;
import java.util.TreeSet;
import java.util.regex.Matcher;
import java.util.regex.Pattern;

/** The face as the document has it, and those rules of LANGUAGE.md that can be read off the class and its source. */
public final class LanguageTest {
    private static final Check check = new Check("LanguageTest");
    private static final String INDEX = "IndexOutOfBoundsException";
    private static final String ARGUMENT = "IllegalArgumentException";
    private static final String STATE = "IllegalStateException";
    private static final String[] FACE = {
        "int setDraws(int,int) " + INDEX + " " + ARGUMENT,
        "int addEntry(int,int,int,int,int,boolean) " + INDEX + " " + ARGUMENT + " " + STATE,
        "int removeEntry(int,int) " + INDEX,
        "int setWeight(int,int,int) " + INDEX + " " + ARGUMENT,
        "int restore()",
        "int entry(int,int,int) " + INDEX + " " + ARGUMENT,
        "int table(int,int) " + INDEX + " " + ARGUMENT,
        "int setCounter(int,int) " + INDEX + " " + ARGUMENT,
        "int setLimit(int,int) " + INDEX + " " + ARGUMENT,
        "int setRise(int,int) " + ARGUMENT,
        "int luck(int,boolean) " + INDEX,
        "int value(int) " + ARGUMENT,
        "int open(int) " + INDEX,
        "int openOften(int,int) " + INDEX + " " + ARGUMENT,
        "int find(int,int) " + ARGUMENT,
        "int often(int) " + INDEX,
        "int chance(int,int,boolean) " + INDEX,
        "int chanceOf(int,int) " + INDEX,
        "int chanceRare(int,int) " + INDEX + " " + ARGUMENT,
        "long meanFinds(int) " + INDEX,
        "double luckyShare()",
        "int soonest(int,int) " + INDEX,
        "int bestDouble(int,int) " + INDEX,
        "int append(int) " + ARGUMENT + " " + STATE,
        "int clearText()",
        "int parse()",
        "int undo() " + STATE,
        "long digest()",
    };

    public static void main(String[] args) throws IOException {
        rule1Face();
        rule1PrivateNames();
        String source = Files.readString(Path.of("src/main/java/FindTables.java"));
        String code = withoutCommentsAndTexts(source);
        words(code);
        newObjects(code);
        rule5StaticFields();
        rule11Sizes(code);
        check.finish();
    }

    private static void rule1Face() {
        Class<?> c = FindTables.class;
        check.dueTrue("rule 1: public and final", Modifier.isPublic(c.getModifiers()) && Modifier.isFinal(c.getModifiers()));
        Set<String> due = new TreeSet<>(Arrays.asList(FACE));
        Set<String> got = new TreeSet<>();
        for (Method m : c.getDeclaredMethods()) {
            if (!Modifier.isPrivate(m.getModifiers())) {
                got.add(described(m));
            }
        }
        check.dueTrue("rule 1: methods " + got + ", due " + due, got.equals(due));
        for (Field f : c.getDeclaredFields()) {
            check.dueTrue("rule 1: field " + f.getName(), f.getName().equals("NONE") || Modifier.isPrivate(f.getModifiers()));
        }
        Constructor<?>[] constructors = c.getDeclaredConstructors();
        check.dueTrue("rule 1: one constructor", constructors.length == 1
                && Modifier.isPublic(constructors[0].getModifiers()) && constructors[0].getParameterCount() == 0);
    }

    private static String described(Method m) {
        StringBuilder text = new StringBuilder(m.getReturnType().getSimpleName()).append(' ').append(m.getName()).append('(');
        for (int i = 0; i < m.getParameterCount(); i++) {
            text.append(i > 0 ? "," : "").append(m.getParameterTypes()[i].getSimpleName());
        }
        text.append(')');
        for (Class<?> e : m.getExceptionTypes()) {
            text.append(' ').append(e.getSimpleName());
        }
        return text.toString();
    }

    private static void rule1PrivateNames() {
        Set<String> names = new HashSet<>();
        for (Method m : FindTables.class.getDeclaredMethods()) {
            if (Modifier.isPublic(m.getModifiers())) {
                names.add(m.getName());
            }
        }
        for (Class<?> c : withInside()) {
            for (Method m : c.getDeclaredMethods()) {
                check.dueTrue("rule 1: name of a public method: " + m, Modifier.isPublic(m.getModifiers()) || !names.contains(m.getName()));
                check.dueTrue("rule 11: parameters of " + m, m.getParameterCount() <= 7);
            }
        }
        for (Class<?> c : FindTables.class.getDeclaredClasses()) {
            check.dueTrue("rule 1: inside: " + c, Modifier.isStatic(c.getModifiers())
                    && !Modifier.isPublic(c.getModifiers()) && !Modifier.isProtected(c.getModifiers()));
        }
    }

    private static Class<?>[] withInside() {
        Class<?>[] inside = FindTables.class.getDeclaredClasses();
        Class<?>[] all = Arrays.copyOf(inside, inside.length + 1);
        all[inside.length] = FindTables.class;
        return all;
    }

    private static String withoutCommentsAndTexts(String source) {
        return source.replaceAll("(?s)/\\*.*?\\*/", "").replaceAll("//[^\n]*", "")
                .replaceAll("\"[^\"\n]*\"", "\"\"").replaceAll("'[^'\n]+'", "' '");
    }

    private static void words(String code) {
        String[] wrong = {"->", "::", "\\btry\\b", "\\bcatch\\b", "\\bfinally\\b", "\\bsynchronized\\b", "\\bassert\\b",
            "\\binstanceof\\b", "\\bpackage\\b", "\\bvar\\b", "Exact\\b", "\\bStringBuilder\\b", "\\bObject\\b", "\\bSystem\\.(?!arraycopy)",
            "@", "\\bequals\\b", "\\bhashCode\\b", "\\btoString\\b", "\\bprotected\\b", "\\bstatic \\{", "\"\" \\+", "\\+ \"\""};
        for (String word : wrong) {
            check.dueTrue("the source has " + word, !Pattern.compile(word).matcher(code).find());
        }
        Matcher imports = Pattern.compile("import ([^;]+);").matcher(code);
        while (imports.find()) {
            check.dueTrue("rule 4: import " + imports.group(1), imports.group(1).equals("java.util.Arrays"));
        }
        Matcher uses = Pattern.compile("\\bArrays\\.(\\w+)").matcher(code);
        while (uses.find()) {
            check.dueTrue("rule 4: Arrays." + uses.group(1), uses.group(1).equals("fill"));
        }
        Matcher thrown = Pattern.compile("throw ([^;]*);").matcher(code);
        while (thrown.find()) {
            check.dueTrue("rule 6: throw " + thrown.group(1),
                    thrown.group(1).matches("new (" + INDEX + "|" + ARGUMENT + "|" + STATE + ")\\((\"\")?\\)"));
        }
    }

    /** The room: everything is made with the object, and a call makes nothing but the exception that it throws. */
    private static void newObjects(String code) {
        Matcher made = Pattern.compile("([^\n]*)\\bnew (\\w+)").matcher(code);
        while (made.find()) {
            String ahead = made.group(1).strip();
            boolean inField = ahead.startsWith("private final ");
            boolean inConstructor = ahead.matches("\\w+ =|states\\[i\\] =");
            check.dueTrue("rule 12: new " + made.group(2) + " behind " + ahead, inField || inConstructor || ahead.equals("throw"));
        }
    }

    private static void rule5StaticFields() {
        for (Class<?> c : withInside()) {
            int fields = 0;
            for (Field f : c.getDeclaredFields()) {
                boolean isStatic = Modifier.isStatic(f.getModifiers());
                check.dueTrue("rule 5: " + f, !isStatic || Modifier.isFinal(f.getModifiers()) && f.getType().isPrimitive());
                fields += isStatic ? 0 : 1;
            }
            check.dueTrue("rule 11: fields of " + c, fields <= 20);
        }
        check.dueTrue("rule 11: classes", withInside().length <= 12);
    }

    private static void rule11Sizes(String code) {
        Matcher head = Pattern.compile("(?m)^( +)(?:public |private |static |final )*[\\w\\[\\]]+ (\\w+)\\([^;{]*\\{$").matcher(code);
        int methods = 0;
        while (head.find()) {
            String rest = code.substring(head.end());
            int end = rest.indexOf("\n" + head.group(1) + "}");
            long lines = rest.substring(0, Math.max(0, end)).lines().count();
            check.dueTrue("rule 11: lines of " + head.group(2) + ": " + lines, end > 0 && lines <= 60);
            methods++;
        }
        check.dueTrue("rule 11: the methods were looked at: " + methods, methods > 80);
    }
}
