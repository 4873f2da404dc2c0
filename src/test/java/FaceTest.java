import java.io.IOException;
import java.lang.reflect.Constructor;
import java.lang.reflect.Field;
import java.lang.reflect.Method;
import java.lang.reflect.Modifier;
import java.nio.file.Files;
import java.nio.file.Path;
import java.util.Set;
import java.util.TreeSet;

/** The public face is the document's and no more, and the source keeps to what LANGUAGE.md leaves. */
public final class FaceTest {
    private static final Check CHECK = new Check("FaceTest");
    private static final String[] FACE = {
        "int sheet(int,int)", "int lay(int,int,int)", "int tear(int)", "int copy(int,int,int,int,int)",
        "int ground(int,int)", "int drop(int)", "int table(int,int,int)", "int told(int,int)", "int mark(int,int)",
        "int turn(int)", "int shear(int,int,int,int)", "int swap(int,int,int)", "int same(int,int)",
        "int alike(int,int)", "int value(int,int)", "int tangent(int,int,int)", "int line(int,int,int)",
        "int lineTold(int)", "int cut(int,int)", "int touches(int,int)", "int lines(int,int)", "int middle(int,int)",
        "int form(int,int)", "int formTold(int)", "int roots(int,int)", "int pattern(int,int)",
        "int rational(int,int,int)", "int between(int,int,int)", "int apart(int,int)", "int first(int,int,int,int)",
        "int shared(int,int,int)", "int place(int,int)", "int shared3(int,int,int,int)", "int asked()",
        "long upper()", "long lower()", "int count(int)", "int finding()", "int findings(int)", "long digest()",
    };
    private static final String[] BANNED = {
        "throw", "throws", "try", "catch", "synchronized", "assert", "import", "protected", "new Object", "hashCode",
        "toString", "equals", "getClass", "System.out", "System.nano", "Thread", "Random", "double", "float",
    };

    public static void main(String[] args) throws IOException {
        face();
        members();
        String code = source(Path.of("src/main/java/BentGrounds.java"));
        rowsAreMadeOnce(code);
        methodsAreShort(code);
        CHECK.end();
    }

    private static void face() {
        Set<String> want = new TreeSet<>(java.util.List.of(FACE));
        Set<String> got = new TreeSet<>();
        for (Method method : BentGrounds.class.getDeclaredMethods()) {
            if (Modifier.isPublic(method.getModifiers())) {
                got.add(signature(method));
            }
        }
        CHECK.due("methods " + got, got.equals(want) ? 1 : 0, 1);
        CHECK.due("final", Modifier.isFinal(BentGrounds.class.getModifiers()) ? 1 : 0, 1);
        Constructor<?>[] made = BentGrounds.class.getDeclaredConstructors();
        CHECK.due("constructors", made.length, 1);
        CHECK.due("public constructor", Modifier.isPublic(made[0].getModifiers()) ? 1 : 0, 1);
        CHECK.due("its parameters", made[0].getParameterCount(), 0);
    }

    private static String signature(Method method) {
        StringBuilder text = new StringBuilder(method.getReturnType().getName()).append(' ').append(method.getName());
        String sign = "(";
        for (Class<?> type : method.getParameterTypes()) {
            text.append(sign).append(type.getName());
            sign = ",";
        }
        return text.append(sign.equals("(") ? "()" : ")").toString();
    }

    private static void members() {
        Set<String> names = new TreeSet<>();
        for (String call : FACE) {
            names.add(call.substring(call.indexOf(' ') + 1, call.indexOf('(')));
        }
        int constants = 0;
        for (Field field : BentGrounds.class.getDeclaredFields()) {
            int how = field.getModifiers();
            constants += Modifier.isPublic(how) ? 1 : 0;
            CHECK.due("field " + field.getName(), Modifier.isPublic(how) || Modifier.isPrivate(how) ? 1 : 0, 1);
            CHECK.due("static " + field.getName(), !Modifier.isStatic(how) || Modifier.isFinal(how) ? 1 : 0, 1);
        }
        CHECK.due("public constants", constants, 6);
        checkMethods(BentGrounds.class, names, true);
        checkFields(BentGrounds.class);
        Class<?>[] inside = BentGrounds.class.getDeclaredClasses();
        CHECK.due("at most twelve classes", inside.length <= 11 ? 1 : 0, 1);
        for (Class<?> part : inside) {
            CHECK.due("static " + part, Modifier.isStatic(part.getModifiers()) ? 1 : 0, 1);
            CHECK.due("not public " + part, Modifier.isPublic(part.getModifiers()) ? 1 : 0, 0);
            checkMethods(part, names, false);
            checkFields(part);
        }
    }

    /** Some twenty fields beside its constants, of the types that LANGUAGE.md leaves. */
    private static void checkFields(Class<?> part) {
        int fields = 0;
        for (Field field : part.getDeclaredFields()) {
            fields += Modifier.isStatic(field.getModifiers()) ? 0 : 1;
            Class<?> type = field.getType();
            Class<?> base = type.isArray() ? type.getComponentType() : type;
            boolean own = base.getName().startsWith("BentGrounds$");
            boolean left = base == int.class || base == long.class || base == boolean.class || own;
            CHECK.due("type of " + field, left ? 1 : 0, 1);
        }
        CHECK.due("fields of " + part, fields <= 20 ? 1 : 0, 1);
    }

    private static void checkMethods(Class<?> part, Set<String> names, boolean face) {
        for (Method method : part.getDeclaredMethods()) {
            boolean open = Modifier.isPublic(method.getModifiers());
            if (method.isSynthetic()) {
                continue;
            }
            CHECK.due("parameters of " + method, method.getParameterCount() <= 7 ? 1 : 0, 1);
            if (!(face && open)) {
                CHECK.due("no public name: " + method, names.contains(method.getName()) ? 1 : 0, 0);
            }
            if (face && !open) {
                CHECK.due("private: " + method, Modifier.isPrivate(method.getModifiers()) ? 1 : 0, 1);
            }
        }
    }

    /** Words of code, comments left out. */
    private static String source(Path path) throws IOException {
        String text = Files.readString(path);
        for (int k = 0; k < text.length(); k++) {
            if (text.charAt(k) > 127) {
                CHECK.due("sign at " + k, text.charAt(k), 0);
            }
        }
        String code = text.replaceAll("(?s)/\\*.*?\\*/", "").replaceAll("//[^\n]*", "");
        for (String word : BANNED) {
            boolean found = java.util.regex.Pattern.compile("\\b" + word + "\\b").matcher(code).find();
            CHECK.due("the word " + word, found ? 1 : 0, 0);
        }
        CHECK.due("no lambda", code.contains("->") ? 1 : 0, 0);
        CHECK.due("no method reference", code.contains("::") ? 1 : 0, 0);
        CHECK.due("no name ending in Exact", code.contains("Exact(") ? 1 : 0, 0);
        CHECK.due("no static block", java.util.regex.Pattern.compile("static\\s*\\{").matcher(code).find() ? 1 : 0, 0);
        return code;
    }

    /** Fields and the constructor make all rows, so 512 calls need no more room than one object. */
    private static void rowsAreMadeOnce(String code) {
        for (String line : code.split("\n")) {
            String plain = line.trim();
            if (!java.util.regex.Pattern.compile("\\bnew\\b").matcher(plain).find()) {
                continue;
            }
            boolean field = plain.matches("(private )?final [A-Za-z\\[\\]]+ [A-Za-z]+ = new .*;");
            boolean made = plain.equals("sheets[s] = new Sheet();") || plain.equals("grounds[g] = new Ground();");
            CHECK.due("made but once: " + plain, field || made ? 1 : 0, 1);
        }
    }

    /** From the line that opens a method to the bracket as far in as it, some sixty lines at most. */
    private static void methodsAreShort(String code) {
        String[] lines = code.split("\n");
        int methods = 0;
        for (int from = 0; from < lines.length; from++) {
            if (!lines[from].matches(" +[A-Za-z].*\\) \\{") || lines[from].matches(" +(if|for|while|switch|else)\\b.*")) {
                continue;
            }
            String end = lines[from].replaceAll("\\S.*", "") + "}";
            int to = from;
            while (to < lines.length && !lines[to].equals(end)) {
                to++;
            }
            methods++;
            CHECK.due("lines of " + lines[from].trim(), to - from < 60 ? 1 : 0, 1);
        }
        CHECK.due("methods were found", methods > FACE.length ? 1 : 0, 1);
    }
}
