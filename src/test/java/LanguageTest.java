import java.lang.reflect.Constructor;
import java.lang.reflect.Field;
import java.lang.reflect.Method;
import java.lang.reflect.Modifier;
import java.nio.charset.StandardCharsets;
import java.nio.file.Files;
import java.nio.file.Path;
import java.util.ArrayList;
import java.util.Arrays;
import java.util.List;
import java.util.Set;
import java.util.TreeSet;
import java.util.regex.Matcher;
import java.util.regex.Pattern;

/** The rules of LANGUAGE.md that can be looked at from outside: the face, the text, and the room. */
public final class LanguageTest {
    private static final Checks checks = new Checks();

    private static final List<String> FACE = List.of(
        "boolean begin(int, int)", "boolean code(int, int)", "boolean fund(int, int)", "boolean preset(int, int, int)",
        "int block(int)", "int log(int, int)", "int look(int, int)", "int pay(int, int, int, int)",
        "int receipt(int, int)", "int root()", "int seal(int)", "int send(int, int, int, int)", "int slot(int, int)",
        "int word(int, int)", "long total()", "void terms(int, int, int)");

    public static void main(String[] args) throws Exception {
        face();
        nestedClasses();
        text(Files.readString(Path.of("src/main/java/GasLedger.java"), StandardCharsets.ISO_8859_1));
        room();
        checks.close();
    }

    private static String signature(Method method) {
        StringBuilder text = new StringBuilder(method.getReturnType().getName());
        text.append(' ').append(method.getName()).append('(');
        String between = "";
        for (Class<?> type : method.getParameterTypes()) {
            text.append(between).append(type.getName());
            between = ", ";
        }
        return text.append(')').toString();
    }

    private static void face() {
        Set<String> open = new TreeSet<>();
        for (Method method : GasLedger.class.getDeclaredMethods()) {
            if (!Modifier.isPrivate(method.getModifiers())) {
                open.add(signature(method));
            }
        }
        checks.due("the face: " + open, open.equals(new TreeSet<>(FACE)), true);
        checks.due("the class is final", Modifier.isFinal(GasLedger.class.getModifiers()), true);
        Constructor<?>[] constructors = GasLedger.class.getDeclaredConstructors();
        checks.due("constructors", constructors.length, 1);
        checks.due("the constructor is public", Modifier.isPublic(constructors[0].getModifiers()), true);
        checks.due("the constructor's parameters", constructors[0].getParameterCount(), 0);
        for (Field field : GasLedger.class.getDeclaredFields()) {
            checks.due("private: " + field, Modifier.isPrivate(field.getModifiers()), true);
        }
    }

    private static List<Class<?>> allClasses() {
        List<Class<?>> all = new ArrayList<>(Arrays.asList(GasLedger.class.getDeclaredClasses()));
        all.add(GasLedger.class);
        return all;
    }

    private static void nestedClasses() {
        Set<String> publicNames = new TreeSet<>();
        for (String line : FACE) {
            publicNames.add(line.substring(line.indexOf(' ') + 1, line.indexOf('(')));
        }
        checks.due("at most twelve classes", allClasses().size() <= 12, true);
        for (Class<?> type : allClasses()) {
            int fields = 0;
            for (Field field : type.getDeclaredFields()) {
                boolean shared = Modifier.isStatic(field.getModifiers());
                fields += shared ? 0 : 1;
                checks.due("static and final: " + field, shared && !Modifier.isFinal(field.getModifiers()), false);
            }
            checks.due("at most twenty fields: " + type, fields <= 20, true);
            for (Method method : type.getDeclaredMethods()) {
                checks.due("at most seven parameters: " + method, method.getParameterCount() <= 7, true);
                boolean ofTheFace = Modifier.isPublic(method.getModifiers()) && type == GasLedger.class;
                boolean named = publicNames.contains(method.getName());
                checks.due("a name of the face: " + method, named && !ofTheFace, false);
            }
            if (type != GasLedger.class) {
                checks.due("static: " + type, Modifier.isStatic(type.getModifiers()), true);
                checks.due("not public: " + type, Modifier.isPublic(type.getModifiers()), false);
            }
        }
    }

    private static void text(String source) {
        String code = source.replaceAll("(?s)/\\*.*?\\*/", "").replaceAll("//[^\n]*", "");
        String[] ruledOut = {"\\bthrow", "\\btry\\b", "\\bcatch\\b", "\\bsynchronized\\b", "\\bassert\\b", "\\bimport\\b",
            "\\bpackage\\b", "System\\.(?!arraycopy)", "->", "::", "\"", "\\bdouble\\b", "\\bfloat\\b", "while \\(true\\)",
            "for \\(;;\\)"};
        for (String pattern : ruledOut) {
            checks.due("ruled out: " + pattern, Pattern.compile(pattern).matcher(code).find(), false);
        }
        Matcher method = Pattern.compile("(?m)^( +)[\\w\\[\\] ]+\\([^;{]*\\) \\{$").matcher(source);
        while (method.find()) {
            int end = source.indexOf("\n" + method.group(1) + "}", method.end());
            long lines = source.substring(method.start(), Math.max(end, method.end())).lines().count() + 1;
            checks.due("at most sixty lines: " + method.group().trim(), lines <= 60, true);
        }
    }

    /** A call makes no object: all rows are made with the ledger and used again. */
    private static void room() {
        com.sun.management.ThreadMXBean threads =
            (com.sun.management.ThreadMXBean) java.lang.management.ManagementFactory.getThreadMXBean();
        long self = Thread.currentThread().getId();
        long bytes = 0;
        // The first rounds are for what the virtual machine itself makes on the way.
        for (int round = 0; round < 20; round++) {
            GasLedger x = new GasLedger();
            long before = threads.getThreadAllocatedBytes(self);
            allKindsOfCalls(x);
            bytes = threads.getThreadAllocatedBytes(self) - before;
        }
        checks.due("bytes that 100 calls and more make are few: " + bytes, bytes < 2000, true);
        long before = threads.getThreadAllocatedBytes(self);
        GasLedger made = new GasLedger();
        long size = threads.getThreadAllocatedBytes(self) - before;
        checks.due("bytes of a ledger: " + size, size < 40000 && made.root() == 0, true);
    }

    private static void addWord(GasLedger x, int word) {
        x.code(1, word);
    }

    private static void allKindsOfCalls(GasLedger x) {
        x.fund(0, 1000000);
        x.fund(1, 1000);
        x.preset(1, 2, 3);
        addWord(x, Words.INPUT);
        addWord(x, Words.LOG);
        addWord(x, Words.push(2));
        addWord(x, Words.push(0));
        addWord(x, Words.push(0));
        addWord(x, Words.CREATE);
        addWord(x, Words.push(1));
        addWord(x, Words.push(1));
        addWord(x, Words.push(2999));
        addWord(x, Words.CALL);
        for (int k = 1; k <= 20; k++) {
            x.begin(k, 3);
            x.terms(3000, 1, 0);
            x.pay(0, 1, 1, 7);
            x.send(0, 1, 1, 7);
            x.root();
            x.look(1, 4);
            x.receipt(0, 0);
            x.log(0, 0);
            x.total();
            x.seal(k & 1);
        }
    }
}
