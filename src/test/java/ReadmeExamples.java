import java.io.IOException;
import java.lang.reflect.Method;
import java.nio.charset.StandardCharsets;
import java.nio.file.Files;
import java.nio.file.Path;
import java.nio.file.Paths;
import java.util.ArrayList;
import java.util.List;
import java.util.regex.Matcher;
import java.util.regex.Pattern;

/**
 * Writes a test, ReadmeRuns, of the examples in a README: each block as it stands, so that it compiles, and once more
 * with a look at each answer that a comment tells. Ends with exit code 1 if a call of the face is in no example.
 *
 * Arguments: the README, and the directory into which ReadmeRuns.java is written.
 */
public final class ReadmeExamples {
    private static final Pattern TOLD = Pattern.compile("((?:x|text)\\.[^;]*);\\s*// (.*)");

    private ReadmeExamples() {
    }

    public static void main(String[] args) throws IOException {
        List<String> lines = Files.readAllLines(Paths.get(args[0]), StandardCharsets.UTF_8);
        List<List<String>> blocks = blocks(lines);
        Path test = Paths.get(args[1], "ReadmeRuns.java");
        Files.write(test, source(blocks).getBytes(StandardCharsets.UTF_8));
        if (!hasAllCalls(blocks)) {
            System.exit(1);
        }
    }

    private static List<List<String>> blocks(List<String> lines) {
        List<List<String>> all = new ArrayList<List<String>>();
        List<String> block = null;
        for (String line : lines) {
            if (line.equals("```java")) {
                block = new ArrayList<String>();
                all.add(block);
            } else if (line.startsWith("```")) {
                block = null;
            } else if (block != null) {
                block.add(line);
            }
        }
        return all;
    }

    private static boolean hasAllCalls(List<List<String>> blocks) {
        boolean hasAll = true;
        String text = blocks.toString();
        for (Method method : ClauseHold.class.getMethods()) {
            boolean isOwn = method.getDeclaringClass() == ClauseHold.class;
            if (isOwn && !text.contains("x." + method.getName() + "(")) {
                hasAll = false;
                System.out.println("no example in the README has the call " + method.getName());
            }
        }
        return hasAll;
    }

    private static String source(List<List<String>> blocks) {
        StringBuilder text = new StringBuilder("public final class ReadmeRuns {\n"
            + "    private static int wrong = 0;\n"
            + "    private static int looked = 0;\n"
            + "    private interface Call {\n        Object now();\n    }\n");
        text.append(DUE);
        for (int i = 0; i < blocks.size(); i++) {
            text.append("    static void plain").append(i).append("() {\n");
            for (String line : blocks.get(i)) {
                text.append("        ").append(line).append('\n');
            }
            text.append("    }\n    static void looked").append(i).append("() {\n");
            for (String line : blocks.get(i)) {
                text.append("        ").append(looking(line)).append('\n');
            }
            text.append("    }\n");
        }
        text.append("    public static void main(String[] args) {\n");
        for (int i = 0; i < blocks.size(); i++) {
            text.append("        looked").append(i).append("();\n");
        }
        return text.append("        System.out.println(\"ReadmeRuns: \" + looked + \" answers looked at, \" + wrong"
            + " + \" wrong\");\n        if (wrong != 0 || looked == 0) {\n            System.exit(1);\n        }\n"
            + "    }\n}\n").toString();
    }

    private static final String DUE = "    private static String told(Object answer) {\n"
        + "        return answer instanceof Character ? \"'\" + answer + \"'\"\n"
        + "            : answer instanceof String ? \"\\\"\" + answer + \"\\\"\" : \"\" + answer;\n    }\n"
        + "    private static void due(String what, Call call, String want) {\n"
        + "        String got;\n        looked++;\n"
        + "        try {\n            got = told(call.now());\n"
        + "        } catch (RuntimeException e) {\n"
        + "            got = \"throws \" + e.getClass().getSimpleName();\n        }\n"
        + "        if (!got.equals(want)) {\n            wrong++;\n"
        + "            System.out.println(\"README: \" + what + \" answers \" + got + \", it says \" + want);\n"
        + "        }\n    }\n";

    /** A line of an example; a call with an answer behind it becomes a look at this answer. */
    private static String looking(String line) {
        Matcher told = TOLD.matcher(line);
        if (!told.matches()) {
            return line;
        }
        String want = told.group(2).split(";")[0].trim();
        return "due(" + quoted(told.group(1)) + ", () -> " + told.group(1) + ", " + quoted(want) + ");";
    }

    private static String quoted(String text) {
        return '"' + text.replace("\\", "\\\\").replace("\"", "\\\"") + '"';
    }
}
