import java.io.IOException;
import java.lang.reflect.Constructor;
import java.lang.reflect.Field;
import java.lang.reflect.Method;
import java.lang.reflect.Modifier;
import java.nio.file.Files;
import java.nio.file.Path;
import java.util.ArrayList;
import java.util.List;
import java.util.Set;
import java.util.TreeSet;
import java.util.regex.Matcher;
import java.util.regex.Pattern;

/** The public face of the document, and those rules of LANGUAGE.md that can be looked up in the file. */
public final class FaceTest {
    private static final Check CHECK = new Check();
    private static final Path SOURCE = Path.of("src/main/java/LameLead.java");
    private static final String[] FACE = {
        "int write(int)", "int wipe()", "int fault()", "int army()", "int about(int)", "int man(int,int)",
        "int stretch(int,int)", "int day()", "int halt()", "int gravel(int)", "int pull(int)", "int undo()",
        "int later(int,int)", "int comes()", "int leads(int)", "int cure(int)", "int plan(int,int)",
        "int judge(int,long)", "int share(int,boolean)", "int attempt(int,int,int)", "int unattempt()",
        "int paces(int)", "int rests(int,int,int)", "int thorny(int,int,boolean)", "long seed(long)",
        "int campaigns(int)", "int keep(int)", "int again(int)"};

    public static void main(String[] args) throws IOException {
        constants();
        members();
        nested();
        words();
        CHECK.end("FaceTest");
    }

    private static void constants() {
        CHECK.due("UNKNOWN", LameLead.UNKNOWN, -1);
        CHECK.due("BAD", LameLead.BAD, -2);
        CHECK.due("LATE", LameLead.LATE, -3);
        CHECK.due("FULL", LameLead.FULL, -4);
        CHECK.due("NONE", LameLead.NONE, -9);
    }

    private static void members() {
        int open = Modifier.PUBLIC | Modifier.FINAL;
        CHECK.due("public and final", LameLead.class.getModifiers() & open, open);
        Set<String> due = new TreeSet<>(List.of(FACE));
        Set<String> seen = new TreeSet<>();
        List<String> names = new ArrayList<>();
        for (Method method : LameLead.class.getDeclaredMethods()) {
            if (!Modifier.isPrivate(method.getModifiers())) {
                seen.add(signature(method));
                names.add(method.getName());
            }
        }
        CHECK.isSo("methods are " + seen, due.equals(seen));
        for (Method method : LameLead.class.getDeclaredMethods()) {
            if (Modifier.isPrivate(method.getModifiers())) {
                CHECK.isSo("private " + method.getName(), !names.contains(method.getName()));
            }
        }
        int constants = 0;
        for (Field field : LameLead.class.getDeclaredFields()) {
            constants += Modifier.isPrivate(field.getModifiers()) ? 0 : 1;
            CHECK.isSo("static is final: " + field.getName(),
                !Modifier.isStatic(field.getModifiers()) || Modifier.isFinal(field.getModifiers()));
        }
        CHECK.due("constants", constants, 5);
        Constructor<?>[] constructors = LameLead.class.getDeclaredConstructors();
        CHECK.due("constructors", constructors.length, 1);
        CHECK.due("its parameters", constructors[0].getParameterCount(), 0);
    }

    private static String signature(Method method) {
        StringBuilder text = new StringBuilder(method.getReturnType().getName() + " " + method.getName() + "(");
        for (Class<?> type : method.getParameterTypes()) {
            text.append(text.charAt(text.length() - 1) == '(' ? "" : ",").append(type.getName());
        }
        return text.append(")").toString();
    }

    private static void nested() {
        Class<?>[] nested = LameLead.class.getDeclaredClasses();
        CHECK.isSo("some twelve classes", nested.length < 12);
        for (Class<?> inside : nested) {
            CHECK.isSo("static: " + inside, Modifier.isStatic(inside.getModifiers()));
            CHECK.isSo("not public: " + inside, !Modifier.isPublic(inside.getModifiers()));
            CHECK.isSo("some twenty fields: " + inside, inside.getDeclaredFields().length <= 20);
            for (Method method : inside.getDeclaredMethods()) {
                CHECK.isSo("seven parameters: " + method, method.getParameterCount() <= 7);
            }
        }
    }

    private static void words() throws IOException {
        String code = Files.readString(SOURCE).replaceAll("(?s)/\\*.*?\\*/", "").replaceAll("//[^\n]*", "");
        for (String word : new String[] {"throw", "throws", "try", "catch", "finally", "synchronized", "assert",
            "import", "package", "protected", "System", "Object", "Exact", "hashCode", "toString"}) {
            Matcher found = Pattern.compile("\\b" + word + "\\b").matcher(code);
            CHECK.isSo("no " + word, !found.find());
        }
        CHECK.isSo("no lambda", !code.contains("->"));
        CHECK.isSo("no method reference", !code.contains("::"));
        CHECK.isSo("no other signs", code.chars().allMatch(c -> c == '\n' || c >= 32 && c < 127));
    }
}
