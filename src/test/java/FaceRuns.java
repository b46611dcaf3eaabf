import java.io.IOException;
import java.lang.reflect.Constructor;
import java.lang.reflect.Member;
import java.lang.reflect.Method;
import java.lang.reflect.Modifier;
import java.nio.file.Files;
import java.nio.file.Paths;
import java.util.ArrayList;
import java.util.Arrays;
import java.util.List;
import java.util.TreeSet;

/** Looks whether the class has the face of the document and keeps to what LANGUAGE.md leaves of Java. */
public final class FaceRuns {
    private static final String[] FACE = {
        "int addVariable() throws IllegalStateException",
        "int type(int) throws IllegalArgumentException, IllegalStateException",
        "int clear()",
        "int addClause() throws IllegalStateException",
        "int addParity(boolean) throws IllegalStateException",
        "int addBound(int) throws IllegalArgumentException, IllegalStateException",
        "int push() throws IllegalStateException",
        "int pop() throws IllegalStateException",
        "int frame()",
        "int assume(int) throws IllegalArgumentException, IllegalStateException",
        "int dropAssumptions()",
        "char solve(int) throws IllegalArgumentException",
        "char answer()",
        "boolean valueOf(int) throws IndexOutOfBoundsException, NoSuchElementException",
        "int core() throws NoSuchElementException",
        "boolean isForced(int) throws IllegalArgumentException",
        "int eliminate(int) throws IndexOutOfBoundsException, IllegalStateException, UnsupportedOperationException",
        "boolean isEliminated(int) throws IndexOutOfBoundsException",
        "int constraints()",
        "int constraintAt(int) throws IndexOutOfBoundsException",
        "char kindOf(int) throws IndexOutOfBoundsException",
        "int sizeOf(int) throws IndexOutOfBoundsException",
        "int literalAt(int,int) throws IndexOutOfBoundsException, NoSuchElementException",
        "int frameOf(int) throws IndexOutOfBoundsException",
        "int spreadOf(int) throws IndexOutOfBoundsException, NoSuchElementException",
        "int usesOf(int) throws IndexOutOfBoundsException",
        "long activityOf(int) throws IndexOutOfBoundsException",
        "boolean phaseOf(int) throws IndexOutOfBoundsException",
        "int conflicts()",
        "int decisions()",
        "int restarts()",
        "int forgotten()",
        "long put()",
        "double meanSpread() throws ArithmeticException",
        "float learntShare() throws ArithmeticException",
        "int lines()",
        "char lineKind(int) throws IndexOutOfBoundsException",
        "int lineNumber(int) throws IndexOutOfBoundsException",
        "boolean isChecked()",
        "boolean isModel() throws NoSuchElementException",
        "char answerByTrying()",
        "int modelsByTrying()",
        "int writeConstraint(int) throws IndexOutOfBoundsException",
        "char textAt(int) throws IndexOutOfBoundsException"};
    /** The line that stands ahead of each group of calls, and the first call of the group. */
    private static final String[][] GROUPS = {
        {"// ---- variables and constraints", "addVariable"},
        {"// ---- frames and assumptions", "push"},
        {"// ---- searching", "solve"},
        {"// ---- elimination", "eliminate"},
        {"// ---- what holds", "constraints"},
        {"// ---- figures", "conflicts"},
        {"// ---- proof and other ways", "lines"}};
    private static final String[] BANNED = {
        "catch", "finally", "synchronized", "assert ", "->", "::", "System.", "Thread", "Random", "Exact(",
        "@Override", "static {", "package ", "String.format", "stream(", "goto"};

    private static int wrong = 0;

    private static void due(boolean holds, String what) {
        if (!holds) {
            wrong++;
            System.out.println(what);
        }
    }

    public static void main(String[] args) throws IOException {
        face();
        insides();
        source();
        System.out.println(wrong == 0 ? "the face and the language are as due" : wrong + " wrong");
        if (wrong != 0) {
            System.exit(1);
        }
    }

    private static boolean isPlain(Member member) {
        return !member.isSynthetic() && !Modifier.isPrivate(member.getModifiers());
    }

    private static void face() {
        Class<ClauseHold> it = ClauseHold.class;
        due(Modifier.isPublic(it.getModifiers()), "the class is public");
        due(Modifier.isFinal(it.getModifiers()), "the class is final");
        due(it.getPackage().getName().isEmpty(), "no package");
        TreeSet<String> want = new TreeSet<String>(Arrays.asList(FACE));
        TreeSet<String> got = new TreeSet<String>();
        for (Method method : it.getDeclaredMethods()) {
            if (isPlain(method)) {
                due(Modifier.isPublic(method.getModifiers()), method + " is public");
                got.add(told(method));
            }
        }
        due(want.equals(got), "the public methods are " + got);
        constructors();
        for (java.lang.reflect.Field field : it.getDeclaredFields()) {
            due(Modifier.isPrivate(field.getModifiers()), field + " is private");
        }
    }

    private static void constructors() {
        int count = 0;
        for (Constructor<?> constructor : ClauseHold.class.getDeclaredConstructors()) {
            count += isPlain(constructor) ? 1 : 0;
            due(Modifier.isPublic(constructor.getModifiers()), "the constructor is public");
            due(constructor.getParameterCount() == 0, "the constructor takes nothing");
            due(constructor.getExceptionTypes().length == 0, "the constructor declares no exception");
        }
        due(count == 1, "one constructor");
    }

    private static String told(Method method) {
        String thrown = names(method.getExceptionTypes(), ", ");
        return method.getReturnType().getSimpleName() + " " + method.getName() + "("
            + names(method.getParameterTypes(), ",") + ")" + (thrown.isEmpty() ? "" : " throws " + thrown);
    }

    private static String names(Class<?>[] types, String between) {
        List<String> all = new ArrayList<String>();
        for (Class<?> type : types) {
            all.add(type.getSimpleName());
        }
        return String.join(between, all);
    }

    /** The calls stand in the order of the document, and each group behind its line. */
    private static void groups(String text) {
        int at = 0;
        for (String call : FACE) {
            String name = call.substring(call.indexOf(' ') + 1, call.indexOf('(') + 1);
            int next = text.indexOf("    public " + call.substring(0, call.indexOf(' ')) + " " + name);
            due(next > at, "in the order of the document: " + call);
            at = next;
        }
        for (String[] group : GROUPS) {
            int line = text.indexOf("    " + group[0] + "\n");
            int first = text.indexOf(" " + group[1] + "(");
            due(line > 0 && line < first, group[0] + " stands ahead of " + group[1]);
            due(line > 0 && text.substring(line, Math.max(line, first)).split("public ").length == 2,
                group[0] + " stands right ahead of " + group[1]);
        }
    }

    private static void insides() {
        TreeSet<String> names = new TreeSet<String>();
        for (Method method : ClauseHold.class.getMethods()) {
            names.add(method.getName());
        }
        due(ClauseHold.class.getDeclaredClasses().length <= 11, "some twelve classes");
        for (Class<?> inside : ClauseHold.class.getDeclaredClasses()) {
            due(Modifier.isStatic(inside.getModifiers()), inside + " is static");
            due(Modifier.isPrivate(inside.getModifiers()), inside + " is private");
            due(inside.getDeclaredFields().length <= 24, inside + " has few fields");
            for (Method method : inside.getDeclaredMethods()) {
                due(!names.contains(method.getName()), method + " has a name of its own");
                due(method.getParameterCount() <= 7, method + " takes at most seven parameters");
            }
        }
        for (Method method : ClauseHold.class.getDeclaredMethods()) {
            boolean isShared = Modifier.isPrivate(method.getModifiers()) && !method.isSynthetic();
            due(!isShared || !names.contains(method.getName()), method + " has a name of its own");
        }
    }

    private static void source() throws IOException {
        String text = new String(Files.readAllBytes(Paths.get("src/main/java/ClauseHold.java")));
        for (String banned : BANNED) {
            due(!text.contains(banned), "the source has: " + banned);
        }
        groups(text);
        int length = 0;
        for (String line : text.split("\n")) {
            for (int i = 0; i < line.length(); i++) {
                due(line.charAt(i) > 0 && line.charAt(i) < 128, "a strange sign in: " + line);
            }
            boolean isImport = line.startsWith("import ");
            due(!isImport || line.matches("import java\\.util\\.(ArrayList|Arrays|NoSuchElementException);"), line);
            length = line.isEmpty() ? 0 : length + 1;
            due(length <= 60, "a long method at: " + line);
            due(!line.contains("while ("), "a loop without a counter: " + line);
        }
    }
}
