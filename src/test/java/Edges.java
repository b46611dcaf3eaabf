import java.lang.reflect.InvocationTargetException;
import java.lang.reflect.Method;
import java.util.ArrayList;
import java.util.Arrays;
import java.util.HashMap;
import java.util.HashSet;
import java.util.List;
import java.util.Map;
import java.util.Set;

/**
 * What the edge tests share: runs of calls told as text, and a look at all that an object answers.
 *
 * A script is a row of calls with blanks between: "vars(3) clause(1,-2) 2*push() solve(9)". Besides the calls of
 * the face there are short ones for several: vars(n), clause(..), odd(..), even(..), bound(most;..),
 * pair(z;..) for the two clauses of these literals with z and with -z, under(..) for a search under assumptions
 * that are dropped then, and teach(z;..) for a pair of the literals with the other signs and a search under these.
 * A row of a run is a call with the answer that is due: "solve(9) = y"; the name of an exception is due where the
 * call is refused.
 */
final class Edges {
    static final String STATE = "IllegalStateException";
    static final String ARGUMENT = "IllegalArgumentException";
    static final String INDEX = "IndexOutOfBoundsException";
    static final String ELEMENT = "NoSuchElementException";
    static final String SUPPORT = "UnsupportedOperationException";
    static final String ARITHMETIC = "ArithmeticException";

    private static final int MOST_CALLS = 512;
    private static final String[] REFUSED_TAILS = {"", "clear()", "addClause()", "addParity(true)", "addVariable()",
        "push()", "pop()", "dropAssumptions() solve(200)", "solve(1)", "solve(200)", "eliminate(0)", "eliminate(1)"};
    private static final String[] LOOKING_TAILS = {"", "solve(200)"};
    private static final Set<String> LOOKING = new HashSet<String>(Arrays.asList("frame", "answer", "valueOf", "core",
        "isForced", "isEliminated", "constraints", "constraintAt", "kindOf", "sizeOf", "literalAt", "frameOf",
        "spreadOf", "usesOf", "activityOf", "phaseOf", "conflicts", "decisions", "restarts", "forgotten", "put",
        "meanSpread", "learntShare", "lines", "lineKind", "lineNumber", "isChecked", "isModel", "answerByTrying",
        "modelsByTrying", "textAt"));
    private static final Map<String, Method> FACE = face();

    private static int wrong = 0;
    private static int looked = 0;
    private static int refused = 0;

    private Edges() {
    }

    private static Map<String, Method> face() {
        Map<String, Method> all = new HashMap<String, Method>();
        for (Method method : ClauseHold.class.getMethods()) {
            if (method.getDeclaringClass() == ClauseHold.class) {
                all.put(method.getName(), method);
            }
        }
        return all;
    }

    /** Ends the test: with exit code 1 if an answer was not the one that is due. */
    static void end(String test) {
        System.out.println(test + ": " + looked + " answers looked at, behind " + refused
            + " refused calls that nothing has changed, " + wrong + " wrong");
        if (wrong != 0) {
            System.exit(1);
        }
    }

    private static void same(String what, String got, String want) {
        looked++;
        if (!got.equals(want)) {
            wrong++;
            System.out.println(what + " answered " + got + ", due is " + want);
        }
    }

    /** Behind a script, the rows one after the other on one object; what is refused or only looks changes nothing. */
    static void run(String what, String script, String... rows) {
        Held x = Held.made(script);
        String before = script;
        for (String row : rows) {
            int at = row.indexOf(" = ");
            String call = row.substring(0, at);
            String want = row.substring(at + 3);
            same(what + ": " + before + " " + call, x.answer(call), want);
            if (want.endsWith("Exception")) {
                refused++;
                changesNothing(what, before, call, REFUSED_TAILS);
            } else if (LOOKING.contains(nameOf(call))) {
                changesNothing(what, before, call, LOOKING_TAILS);
            } else if (!Held.isManyLooks(nameOf(call))) {
                before = before + " " + call;
            }
        }
    }

    /** The numbers of a range with those next to it: inside it is not refused so, outside it is. */
    static void range(String what, String script, String call, int low, int high, String exception) {
        for (int inside : new int[] {low, high}) {
            if (low <= high) {
                String got = Held.made(script).answer(call.replace("#", "" + inside));
                same(what + ": " + script + " " + call + " " + inside, got.equals(exception) + "", "false");
            }
        }
        for (int outside : new int[] {Integer.MIN_VALUE, Integer.MIN_VALUE + 1, low - 1, high + 1,
            Integer.MAX_VALUE - 1, Integer.MAX_VALUE}) {
            run(what, script, call.replace("#", "" + outside) + " = " + exception);
        }
    }

    /** The literals of so many variables: those are not refused as no literals, what is next to them is. */
    static void literals(String what, String script, String call, int variables) {
        for (int outside : new int[] {0, variables + 1, -variables - 1, Integer.MIN_VALUE, Integer.MIN_VALUE + 1,
            Integer.MAX_VALUE}) {
            run(what, script, call.replace("#", "" + outside) + " = " + ARGUMENT);
        }
    }

    private static String nameOf(String call) {
        return call.substring(0, call.indexOf('('));
    }

    /** Two objects with the same calls, but for this one: whatever is asked then, they answer the same. */
    private static void changesNothing(String what, String script, String call, String[] tails) {
        for (String tail : tails) {
            List<String> looks = Held.looks(script, tail);
            List<String> calm = Held.seen(script, "", tail, looks);
            List<String> after = Held.seen(script, call, tail, looks);
            for (int i = 0; i < calm.size(); i++) {
                if (!calm.get(i).equals(after.get(i))) {
                    same(what + ": " + script + " " + call + " has changed what is answered, then " + tail,
                        after.get(i), calm.get(i));
                    return;
                }
            }
        }
        looked++;
    }

    /** An object whose calls are told as text, and counted: nothing is promised behind the 512th. */
    private static final class Held {
        private static final Map<String, List<String>> CALM = new HashMap<String, List<String>>();
        private static final Map<String, List<String>> LOOKS = new HashMap<String, List<String>>();
        private final ClauseHold it = new ClauseHold();
        private int calls = 0;

        static Held made(String script) {
            Held x = new Held();
            for (String call : parts(script)) {
                String got = x.answer(call);
                if (got.endsWith("Exception")) {
                    same("in the script " + script + " the call " + call, got, "an answer");
                }
            }
            return x;
        }

        // ---- calls as text

        private static List<String> parts(String script) {
            List<String> all = new ArrayList<String>();
            for (String part : script.trim().split(" +")) {
                int star = part.indexOf('*');
                int times = star > 0 ? Integer.parseInt(part.substring(0, star)) : 1;
                for (int i = 0; i < times && !part.isEmpty(); i++) {
                    all.addAll(single(part.substring(star + 1)));
                }
            }
            return all;
        }

        /** The calls of the face that one part of a script stands for. */
        private static List<String> single(String part) {
            String name = nameOf(part);
            String inside = part.substring(name.length() + 1, part.length() - 1);
            String rest = inside.substring(inside.indexOf(';') + 1);
            List<String> all = new ArrayList<String>();
            if (name.equals("vars")) {
                for (int i = Integer.parseInt(inside); i > 0; i--) {
                    all.add("addVariable()");
                }
            } else if (name.equals("pair")) {
                String z = inside.substring(0, inside.indexOf(';'));
                all.addAll(single("clause(" + rest + "," + z + ")"));
                all.addAll(single("clause(" + rest + ",-" + z + ")"));
            } else if (name.equals("under") || name.equals("teach")) {
                if (name.equals("teach")) {
                    String others = ("-" + rest.replace(",", ",-")).replace("--", "");
                    all.addAll(single("pair(" + inside.substring(0, inside.indexOf(';')) + ";" + others + ")"));
                }
                addEach(all, "assume", rest);
                all.add("solve(200)");
                all.add("dropAssumptions()");
            } else if (Arrays.asList("clause", "odd", "even", "bound").contains(name)) {
                addEach(all, "type", rest);
                all.add(name.equals("clause") ? "addClause()" : name.equals("odd") ? "addParity(true)"
                    : name.equals("even") ? "addParity(false)"
                    : "addBound(" + inside.substring(0, inside.indexOf(';')) + ")");
            } else {
                all.add(part);
            }
            return all;
        }

        private static void addEach(List<String> all, String name, String literals) {
            for (String literal : literals.split(",")) {
                all.add(name + "(" + literal + ")");
            }
        }

        /** What the call answers; of a part that stands for several calls, what the last one does. */
        String answer(String part) {
            if (isManyLooks(nameOf(part))) {
                return manyLooks(part);
            }
            String got = "";
            for (String call : single(part)) {
                got = plainAnswer(call);
            }
            return got;
        }

        private String plainAnswer(String call) {
            calls++;
            if (calls > MOST_CALLS) {
                same("the call " + call, "that there were too many calls", "no more than 512");
            }
            String name = nameOf(call);
            String inside = call.substring(name.length() + 1, call.length() - 1);
            String[] texts = inside.isEmpty() ? new String[0] : inside.split(",");
            Object[] values = new Object[texts.length];
            for (int i = 0; i < texts.length; i++) {
                boolean isTruth = texts[i].equals("true") || texts[i].equals("false");
                values[i] = isTruth ? (Object) texts[i].equals("true") : (Object) Integer.parseInt(texts[i]);
            }
            try {
                return "" + FACE.get(name).invoke(it, values);
            } catch (InvocationTargetException e) {
                return told(e.getCause());
            } catch (IllegalAccessException e) {
                return "no access";
            }
        }

        /** What the machine or the library throws by itself is told apart from what the class throws. */
        private static String told(Throwable thrown) {
            StackTraceElement[] trace = thrown.getStackTrace();
            boolean isOwn = trace.length > 0 && trace[0].getClassName().equals("ClauseHold");
            return (isOwn ? "" : "the machine's ") + thrown.getClass().getSimpleName();
        }

        private int number(String call) {
            return Integer.parseInt(plainAnswer(call));
        }

        // ---- several looks at once

        static boolean isManyLooks(String name) {
            return Arrays.asList("written", "proof", "held", "values", "phases", "activities", "away", "uses",
                "frames", "spreads", "kinds", "learnt").contains(name);
        }

        private String manyLooks(String part) {
            switch (nameOf(part)) {
                case "written":
                    return written(part.substring(8, part.length() - 1));
                case "proof":
                    return proof();
                case "values":
                    return ofVariables("valueOf", "");
                case "phases":
                    return ofVariables("phaseOf", "");
                case "activities":
                    return ofVariables("activityOf", " ");
                case "away":
                    return ofVariables("isEliminated", "");
                case "uses":
                    return ofHeld("usesOf", " ");
                case "frames":
                    return ofHeld("frameOf", " ");
                case "spreads":
                    return ofHeld("spreadOf", " ");
                case "kinds":
                    return ofHeld("kindOf", "");
                case "learnt":
                    return learnt();
                default:
                    return numbers().toString().replaceAll("[\\[\\],]", "");
            }
        }

        private String written(String number) {
            String length = plainAnswer("writeConstraint(" + number + ")");
            StringBuilder text = new StringBuilder();
            for (int i = 0; !length.endsWith("Exception") && i < Integer.parseInt(length); i++) {
                text.append(plainAnswer("textAt(" + i + ")"));
            }
            return text.length() == 0 ? length : text.toString();
        }

        private String proof() {
            StringBuilder text = new StringBuilder();
            int lines = number("lines()");
            for (int i = 0; i < lines; i++) {
                text.append(i > 0 ? " " : "").append(plainAnswer("lineKind(" + i + ")"));
                text.append(plainAnswer("lineNumber(" + i + ")"));
            }
            return text.toString();
        }

        private int variables() {
            int count = 0;
            while (count < 12 && !plainAnswer("phaseOf(" + count + ")").equals(INDEX)) {
                count++;
            }
            return count;
        }

        /** The answers for all variables; a truth is 1 or 0, and a refused one a dash. */
        private String ofVariables(String call, String between) {
            StringBuilder text = new StringBuilder();
            int variables = variables();
            for (int v = 0; v < variables; v++) {
                text.append(v > 0 ? between : "").append(brief(plainAnswer(call + "(" + v + ")")));
            }
            return text.toString();
        }

        private static String brief(String answer) {
            return answer.equals("true") ? "1" : answer.equals("false") ? "0"
                : answer.equals(ELEMENT) ? "-" : answer;
        }

        private List<String> numbers() {
            List<String> all = new ArrayList<String>();
            int count = number("constraints()");
            for (int i = 0; i < count; i++) {
                all.add(plainAnswer("constraintAt(" + i + ")"));
            }
            return all;
        }

        /** The answers for all constraints that hold; a refused one is a dash. */
        private String ofHeld(String call, String between) {
            StringBuilder text = new StringBuilder();
            for (String number : numbers()) {
                text.append(text.length() > 0 ? between : "");
                text.append(brief(plainAnswer(call + "(" + number + ")")));
            }
            return text.toString();
        }

        private String learnt() {
            StringBuilder text = new StringBuilder();
            for (String number : numbers()) {
                if (plainAnswer("kindOf(" + number + ")").equals("l")) {
                    text.append(text.length() > 0 ? ", " : "").append(written(number));
                }
            }
            return text.toString();
        }

        // ---- all that an object answers

        /** The looks that fit an object behind this script and this tail. */
        static List<String> looks(String script, String tail) {
            String key = script + "|" + tail;
            if (!LOOKS.containsKey(key)) {
                LOOKS.put(key, freshLooks(script, tail));
            }
            return LOOKS.get(key);
        }

        private static List<String> freshLooks(String script, String tail) {
            List<String> all = new ArrayList<String>(Arrays.asList("answer()", "frame()", "core()", "constraints()",
                "conflicts()", "decisions()", "restarts()", "forgotten()", "put()", "meanSpread()", "learntShare()",
                "lines()", "isChecked()", "isModel()", "answerByTrying()", "modelsByTrying()"));
            int variables = behind(script, "", tail).variables();
            for (int v = 0; v <= variables; v++) {
                all.addAll(Arrays.asList("valueOf(" + v + ")", "isEliminated(" + v + ")", "activityOf(" + v + ")",
                    "phaseOf(" + v + ")", "isForced(" + (v + 1) + ")", "isForced(" + (-v - 1) + ")"));
            }
            Held probe = behind(script, "", tail);
            int lines = probe.number("lines()");
            List<String> held = probe.numbers();
            for (int i = 0; i <= held.size(); i++) {
                all.add("constraintAt(" + i + ")");
            }
            for (String n : held) {
                probe = probe.calls < MOST_CALLS ? probe : behind(script, "", tail);
                int size = probe.number("sizeOf(" + n + ")");
                all.addAll(Arrays.asList("kindOf(" + n + ")", "sizeOf(" + n + ")", "frameOf(" + n + ")",
                    "usesOf(" + n + ")", "spreadOf(" + n + ")"));
                for (int i = 0; i <= size; i++) {
                    all.add("literalAt(" + n + "," + i + ")");
                }
            }
            for (int i = 0; i <= lines; i++) {
                all.addAll(Arrays.asList("lineKind(" + i + ")", "lineNumber(" + i + ")"));
            }
            for (int i = 0; i < 20; i++) {
                all.add("textAt(" + i + ")");
            }
            return all;
        }

        private static Held behind(String script, String call, String tail) {
            Held x = made(script);
            if (!call.isEmpty()) {
                x.answer(call);
            }
            for (String part : parts(tail)) {
                x.answer(part);
            }
            return x;
        }

        /** What the tail and the looks answer; on several objects, if one is not promised for so many calls. */
        static List<String> seen(String script, String call, String tail, List<String> looks) {
            String key = script + "|" + tail;
            if (call.isEmpty() && CALM.containsKey(key)) {
                return CALM.get(key);
            }
            List<String> answers = new ArrayList<String>();
            Held x = made(script);
            if (!call.isEmpty()) {
                x.answer(call);
            }
            for (String part : parts(tail)) {
                answers.add(x.answer(part));
            }
            for (String look : looks) {
                if (x.calls >= MOST_CALLS) {
                    x = behind(script, call, tail);
                }
                answers.add(x.answer(look));
            }
            if (call.isEmpty()) {
                CALM.put(key, answers);
            }
            return answers;
        }
    }
}
