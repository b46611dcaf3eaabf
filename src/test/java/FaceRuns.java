import java.io.IOException;
import java.lang.reflect.Constructor;
import java.lang.reflect.Member;
import java.lang.reflect.Method;
import java.lang.reflect.Modifier;
import java.nio.file.Files;
import java.nio.file.Paths;
import java.util.ArrayList;
import java.util.Arrays;
import java.util.List;
import java.util.TreeSet;

/** Looks whether the class has the face of the document and keeps to what LANGUAGE.md leaves of Java. */
public final class FaceRuns {
    private static final String[] FACE = {
        "int addVariable()", "int type(int)", "int clear()", "int addClause()", "int addParity(boolean)",
        "int addBound(int)", "int push()", "int pop()", "int frame()", "int assume(int)", "int dropAssumptions()",
        "char solve(int)", "char answer()", "boolean valueOf(int)", "int core()", "boolean isForced(int)",
        "int eliminate(int)", "boolean isEliminated(int)", "int constraints()", "int constraintAt(int)",
        "char kindOf(int)", "int sizeOf(int)", "int literalAt(int,int)", "int frameOf(int)", "int spreadOf(int)",
        "int usesOf(int)", "long activityOf(int)", "boolean phaseOf(int)", "int conflicts()", "int decisions()",
        "int restarts()", "int forgotten()", "long put()", "double meanSpread()", "float learntShare()",
        "int lines()", "char lineKind(int)", "int lineNumber(int)", "boolean isChecked()", "boolean isModel()",
        "char answerByTrying()", "int modelsByTrying()", "int writeConstraint(int)", "char textAt(int)"};
    private static final String[] BANNED = {
        "catch", "finally", "synchronized", "assert ", "->", "::", "System.", "Thread", "Random", "Exact(",
        "@Override", "static {", "package ", "String.format", "stream(", "goto"};

    private static int wrong = 0;

    private static void due(boolean holds, String what) {
        if (!holds) {
            wrong++;
            System.out.println(what);
        }
    }

    public static void main(String[] args) throws IOException {
        face();
        insides();
        source();
        System.out.println(wrong == 0 ? "the face and the language are as due" : wrong + " wrong");
        if (wrong != 0) {
            System.exit(1);
        }
    }

    private static boolean isPlain(Member member) {
        return !member.isSynthetic() && !Modifier.isPrivate(member.getModifiers());
    }

    private static void face() {
        Class<ClauseHold> it = ClauseHold.class;
        due(Modifier.isPublic(it.getModifiers()), "the class is public");
        due(Modifier.isFinal(it.getModifiers()), "the class is final");
        due(it.getPackage().getName().isEmpty(), "no package");
        TreeSet<String> want = new TreeSet<String>(Arrays.asList(FACE));
        TreeSet<String> got = new TreeSet<String>();
        for (Method method : it.getDeclaredMethods()) {
            if (isPlain(method)) {
                due(Modifier.isPublic(method.getModifiers()), method + " is public");
                got.add(told(method));
            }
        }
        due(want.equals(got), "the public methods are " + got);
        int constructors = 0;
        for (Constructor<?> constructor : it.getDeclaredConstructors()) {
            constructors += isPlain(constructor) ? 1 : 0;
            due(constructor.getParameterCount() == 0, "the constructor takes nothing");
        }
        due(constructors == 1, "one constructor");
        for (java.lang.reflect.Field field : it.getDeclaredFields()) {
            due(Modifier.isPrivate(field.getModifiers()), field + " is private");
        }
    }

    private static String told(Method method) {
        List<String> types = new ArrayList<String>();
        for (Class<?> type : method.getParameterTypes()) {
            types.add(type.getSimpleName());
        }
        return method.getReturnType().getSimpleName() + " " + method.getName() + "(" + String.join(",", types) + ")";
    }

    private static void insides() {
        TreeSet<String> names = new TreeSet<String>();
        for (Method method : ClauseHold.class.getMethods()) {
            names.add(method.getName());
        }
        due(ClauseHold.class.getDeclaredClasses().length <= 11, "some twelve classes");
        for (Class<?> inside : ClauseHold.class.getDeclaredClasses()) {
            due(Modifier.isStatic(inside.getModifiers()), inside + " is static");
            due(Modifier.isPrivate(inside.getModifiers()), inside + " is private");
            due(inside.getDeclaredFields().length <= 24, inside + " has few fields");
            for (Method method : inside.getDeclaredMethods()) {
                due(!names.contains(method.getName()), method + " has a name of its own");
                due(method.getParameterCount() <= 7, method + " takes at most seven parameters");
            }
        }
        for (Method method : ClauseHold.class.getDeclaredMethods()) {
            boolean isShared = Modifier.isPrivate(method.getModifiers()) && !method.isSynthetic();
            due(!isShared || !names.contains(method.getName()), method + " has a name of its own");
        }
    }

    private static void source() throws IOException {
        String text = new String(Files.readAllBytes(Paths.get("src/main/java/ClauseHold.java")));
        for (String banned : BANNED) {
            due(!text.contains(banned), "the source has: " + banned);
        }
        int length = 0;
        for (String line : text.split("\n")) {
            for (int i = 0; i < line.length(); i++) {
                due(line.charAt(i) > 0 && line.charAt(i) < 128, "a strange sign in: " + line);
            }
            boolean isImport = line.startsWith("import ");
            due(!isImport || line.matches("import java\\.util\\.(ArrayList|Arrays|NoSuchElementException);"), line);
            length = line.isEmpty() ? 0 : length + 1;
            due(length <= 60, "a long method at: " + line);
            due(!line.contains("while ("), "a loop without a counter: " + line);
        }
    }
}
