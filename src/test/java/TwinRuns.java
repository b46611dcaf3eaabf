import java.util.ArrayList;
import java.util.Collections;
import java.util.List;
import java.util.NoSuchElementException;
import java.util.TreeSet;

/**
 * Runs the class beside a twin that follows the document word by word, with lists of literals and without any
 * haste, on runs of calls that a fixed rule scatters. Every answer and every exception of the two must be the same.
 */
public final class TwinRuns {
    private static final String[] NAMES = {
        "addVariable", "type", "clear", "addClause", "addParity", "addBound", "push", "pop", "frame", "assume",
        "dropAssumptions", "solve", "answer", "valueOf", "core", "isForced", "eliminate", "isEliminated",
        "constraints", "constraintAt", "kindOf", "sizeOf", "literalAt", "frameOf", "spreadOf", "usesOf",
        "activityOf", "phaseOf", "conflicts", "decisions", "restarts", "forgotten", "put", "meanSpread",
        "learntShare", "lines", "lineKind", "lineNumber", "isChecked", "isModel", "answerByTrying",
        "modelsByTrying", "writeConstraint", "textAt"};

    private static int wrong = 0;
    private static final int[] asked = new int[NAMES.length];
    private static final int[] threw = new int[NAMES.length];

    private final Dice dice;
    private final ClauseHold one = new ClauseHold();
    private final Twin twin = new Twin();
    private final StringBuilder log = new StringBuilder();
    private int calls = 0;
    private boolean isOff = false;

    private TwinRuns(int seed) {
        dice = new Dice(seed);
    }

    public static void main(String[] args) {
        int runs = args.length > 0 ? Integer.parseInt(args[0]) : 900;
        int[] sums = new int[12];
        for (int seed = 1; seed <= runs && wrong < 5; seed++) {
            TwinRuns run = new TwinRuns(seed);
            run.play(seed);
            run.addTo(sums);
        }
        String[] what = {"conflicts", "restarts", "forgotten", "left out literals", "learnt in upper frames",
            "resolvents", "brought back", "chains of bringing back", "searches out of budget", "double uses",
            "frames raised by level 0", "empty resolvents"};
        for (int i = 0; i < what.length; i++) {
            System.out.println(what[i] + ": " + sums[i]);
            due(runs < 500 || sums[i] > 0, "no run has met: " + what[i]);
        }
        for (int i = 0; i < NAMES.length; i++) {
            due(asked[i] > threw[i], "no run was answered by " + NAMES[i]);
        }
        System.out.println(wrong == 0 ? "twin runs: all as due" : "twin runs: " + wrong + " wrong");
        if (wrong != 0) {
            System.exit(1);
        }
    }

    private static void due(boolean holds, String what) {
        if (!holds) {
            wrong++;
            System.out.println(what);
        }
    }

    private void addTo(int[] sums) {
        int[] own = {twin.conflictCount, twin.restartCount, twin.forgottenCount, twin.leftOut, twin.upperLearnt,
            twin.resolventCount, twin.broughtBack, twin.chains, twin.outOfBudget, twin.doubleUses,
            twin.raisedByZero, twin.emptyResolvents};
        for (int i = 0; i < own.length; i++) {
            sums[i] += own[i];
        }
    }

    // ---- the runs

    private void play(int seed) {
        int kind = seed % 6;
        int variables = kind == 0 ? dice.upTo(4) : kind == 1 ? 12 : 4 + dice.upTo(8);
        for (int i = 0; i < variables; i++) {
            call(0, 0, 0);
        }
        if (kind == 1 && seed % 12 == 1) {
            playHard();
        } else if (kind == 1) {
            playHarder();
        }
        for (int i = dice.upTo(14); i > 0 && kind != 1; i--) {
            tell(kind);
        }
        int steps = 50 + dice.upTo(60);
        for (int i = 0; i < steps && calls < 380 && !isOff && kind != 1; i++) {
            step(kind);
        }
        lookAtAll();
    }

    /** Long rows in frames that come and go: many conflicts, restarts and forgotten clauses. */
    private void playHard() {
        int parities = dice.upTo(3) * 33;
        for (int batch = 0; batch < 4 && !isOff; batch++) {
            if (dice.upTo(3) > 0) {
                call(6, 0, 0);
            }
            for (int i = 7 + dice.upTo(6); i > 0; i--) {
                tellLong(parities);
            }
            for (int i = 3 + dice.upTo(8); i > 0 && calls < 380; i--) {
                if (dice.upTo(2) == 0) {
                    call(dice.upTo(2) == 0 ? 10 : 9, literal(), 0);
                }
                call(11, budget(), 0);
                look(12 + dice.upTo(31));
            }
            if (dice.upTo(2) > 0) {
                call(7, 0, 0);
            }
        }
    }

    private void tellLong(int parities) {
        for (int i = 4 + dice.upTo(3); i > 0; i--) {
            call(1, literal(), 0);
        }
        if (dice.upTo(99) < parities) {
            call(4, dice.upTo(1), 0);
        } else if (dice.upTo(1) == 0) {
            call(5, 1 + dice.upTo(1), 0);
        } else {
            call(3, 0, 0);
        }
    }

    /** Rows of six that few values meet, and searches over and over: the most conflicts. */
    private void playHarder() {
        int kinds = dice.upTo(3);
        int rows = 14 + dice.upTo(26);
        int below = dice.upTo(rows);
        for (int i = 0; i < rows; i++) {
            if (i == below) {
                call(6, 0, 0);
            }
            tellSix(kinds == 0 ? 0 : kinds == 1 ? dice.upTo(1) : dice.upTo(2));
        }
        for (int i = 3 + dice.upTo(12); i > 0 && calls < 400; i--) {
            if (dice.upTo(2) == 0) {
                call(dice.upTo(2) == 0 ? 10 : 9, literal(), 0);
            }
            if (dice.upTo(9) == 0) {
                call(7, 0, 0);
            }
            call(11, dice.upTo(1) == 0 ? 200 : budget(), 0);
            look(12 + dice.upTo(31));
        }
    }

    private void tellSix(int which) {
        for (int i = 0; twin.typed.size() < 6 && i < 100; i++) {
            int literal = dice.upTo(1) == 0 ? 1 + dice.upTo(11) : -1 - dice.upTo(11);
            if (!twin.typed.contains(literal) && !twin.typed.contains(-literal)) {
                call(1, literal, 0);
            }
        }
        if (which == 0) {
            call(4, dice.upTo(1), 0);
        } else if (which == 1) {
            call(5, 3, 0);
        } else {
            call(3, 0, 0);
        }
    }

    private int literal() {
        int n = twin.variables;
        if (n == 0 || dice.upTo(40) == 0) {
            return dice.upTo(30) - 15;
        }
        int variable = 1 + dice.upTo(n - 1);
        return dice.upTo(1) == 0 ? variable : -variable;
    }

    private int variable() {
        return dice.upTo(25) == 0 ? dice.upTo(15) - 2 : dice.upTo(Math.max(0, twin.variables - 1));
    }

    private int number() {
        List<Row> held = twin.held();
        if (held.isEmpty() || dice.upTo(8) == 0) {
            return dice.upTo(twin.rows.size() + 4) - 2;
        }
        return held.get(dice.upTo(1) == 0 ? held.size() - 1 : dice.upTo(held.size() - 1)).number;
    }

    private void tell(int kind) {
        int size = 1 + dice.upTo(dice.upTo(3) == 0 ? 5 : 2);
        if (kind == 2 && dice.upTo(2) > 0) {
            size = 2;
        }
        for (int i = 0; i < size; i++) {
            call(1, literal(), 0);
        }
        int rows = kind == 5 ? 3 : 5;
        int which = kind == 2 || kind == 4 ? 2 : dice.upTo(rows);
        if (which == 0) {
            call(4, dice.upTo(1), 0);
        } else if (which == 1) {
            call(5, dice.upTo(20) == 0 ? dice.upTo(12) - 4 : dice.upTo(3), 0);
        } else {
            call(3, 0, 0);
        }
    }

    private void step(int kind) {
        int pick = dice.upTo(99);
        if (pick < 16) {
            call(11, budget(), 0);
        } else if (pick < 26) {
            tell(kind);
        } else if (pick < 32) {
            call(9, literal(), 0);
        } else if (pick < 35) {
            call(10, 0, 0);
        } else if (pick < 39 && kind != 2 && kind != 4) {
            call(6, 0, 0);
        } else if (pick < 43 && kind != 2 && kind != 4) {
            call(7, 0, 0);
        } else if (pick < 50) {
            call(16, variable(), 0);
        } else if (pick < 51) {
            call(0, 0, 0);
        } else if (pick < 52) {
            call(2, 0, 0);
        } else {
            look(8 + dice.upTo(35));
        }
    }

    private int budget() {
        int pick = dice.upTo(19);
        return pick == 0 ? dice.upTo(300) - 50 : pick < 5 ? 1 + dice.upTo(3) : pick < 9 ? 1 + dice.upTo(20) : 200;
    }

    private void look(int call) {
        switch (NAMES[call]) {
            case "assume": case "dropAssumptions": case "solve": case "eliminate":
                break;
            case "valueOf": case "isEliminated": case "activityOf": case "phaseOf":
                call(call, variable(), 0);
                break;
            case "isForced":
                call(call, literal(), 0);
                break;
            case "constraintAt":
                call(call, dice.upTo(twin.held().size() + 1) - 1, 0);
                break;
            case "kindOf": case "sizeOf": case "frameOf": case "spreadOf": case "usesOf": case "writeConstraint":
                call(call, number(), 0);
                break;
            case "literalAt":
                call(call, number(), dice.upTo(5) - 1);
                break;
            case "lineKind": case "lineNumber":
                call(call, dice.upTo(twin.lines.size() + 1) - 1, 0);
                break;
            case "textAt":
                call(call, dice.upTo(twin.text.length() + 1) - 1, 0);
                break;
            default:
                call(call, 0, 0);
        }
    }

    private void lookAtAll() {
        for (int i = 8; i < NAMES.length; i++) {
            look(i);
        }
        for (int v = 0; v < twin.variables; v++) {
            call(13, v, 0);
            call(26, v, 0);
            call(27, v, 0);
        }
        List<Row> held = twin.held();
        for (int i = held.size() - 1; i >= 0 && calls < 500 && !isOff; i--) {
            int number = held.get(i).number;
            call(25, number, 0);
            call(23, number, 0);
            call(24, number, 0);
            call(42, number, 0);
        }
    }

    private void call(int call, int a, int b) {
        if (isOff || calls >= 512) {
            return;
        }
        calls++;
        asked[call]++;
        String want = answerOfTwin(call, a, b);
        String got = answerOfOne(call, a, b);
        if (want.startsWith("throws")) {
            threw[call]++;
        }
        log.append(NAMES[call]).append('(').append(a).append(", ").append(b).append(") ").append(got).append('\n');
        if (!want.equals(got)) {
            wrong++;
            isOff = true;
            System.out.println("seed " + dice.seed + ", the last row is wrong, due is " + want + "\n" + log);
        }
    }

    private String answerOfTwin(int call, int a, int b) {
        try {
            return twin.call(NAMES[call], a, b);
        } catch (Refused e) {
            return "throws." + e.getMessage();
        }
    }

    private String answerOfOne(int call, int a, int b) {
        try {
            return textOf(call, a, b);
        } catch (RuntimeException e) {
            boolean isOwn = e.getStackTrace()[0].getClassName().equals("ClauseHold");
            return (isOwn ? "throws." : "the machine throws.") + e.getClass().getSimpleName();
        }
    }

    private String textOf(int call, int a, int b) {
        switch (NAMES[call]) {
            case "addVariable": return "" + one.addVariable();
            case "type": return "" + one.type(a);
            case "clear": return "" + one.clear();
            case "addClause": return "" + one.addClause();
            case "addParity": return "" + one.addParity(a == 1);
            case "addBound": return "" + one.addBound(a);
            case "push": return "" + one.push();
            case "pop": return "" + one.pop();
            case "frame": return "" + one.frame();
            case "assume": return "" + one.assume(a);
            case "dropAssumptions": return "" + one.dropAssumptions();
            case "solve": return "" + one.solve(a);
            case "answer": return "" + one.answer();
            case "valueOf": return "" + one.valueOf(a);
            case "core": return "" + one.core();
            case "isForced": return "" + one.isForced(a);
            case "eliminate": return "" + one.eliminate(a);
            case "isEliminated": return "" + one.isEliminated(a);
            case "constraints": return "" + one.constraints();
            case "constraintAt": return "" + one.constraintAt(a);
            case "kindOf": return "" + one.kindOf(a);
            case "sizeOf": return "" + one.sizeOf(a);
            case "literalAt": return "" + one.literalAt(a, b);
            case "frameOf": return "" + one.frameOf(a);
            case "spreadOf": return "" + one.spreadOf(a);
            case "usesOf": return "" + one.usesOf(a);
            case "activityOf": return "" + one.activityOf(a);
            case "phaseOf": return "" + one.phaseOf(a);
            case "conflicts": return "" + one.conflicts();
            case "decisions": return "" + one.decisions();
            case "restarts": return "" + one.restarts();
            case "forgotten": return "" + one.forgotten();
            case "put": return "" + one.put();
            case "meanSpread": return "" + one.meanSpread();
            case "learntShare": return "" + one.learntShare();
            case "lines": return "" + one.lines();
            case "lineKind": return "" + one.lineKind(a);
            case "lineNumber": return "" + one.lineNumber(a);
            case "isChecked": return "" + one.isChecked();
            case "isModel": return "" + one.isModel();
            case "answerByTrying": return "" + one.answerByTrying();
            case "modelsByTrying": return "" + one.modelsByTrying();
            case "writeConstraint": return writtenByOne(a);
            case "textAt": return "" + one.textAt(a);
            default: return "no such call";
        }
    }

    private String writtenByOne(int number) {
        int length = one.writeConstraint(number);
        StringBuilder all = new StringBuilder();
        for (int i = 0; i < length; i++) {
            all.append(one.textAt(i));
        }
        return length + ":" + all;
    }

    /** Numbers that are scattered by a fixed rule. */
    private static final class Dice {
        final int seed;
        private long state;

        Dice(int seed) {
            this.seed = seed;
            state = seed * 0x9E3779B97F4A7C15L + 12345;
        }

        int upTo(int most) {
            state = state * 6364136223846793005L + 1442695040888963407L;
            return (int) ((state >>> 33) % (most + 1));
        }
    }

    private static final class Refused extends Exception {
        Refused(String name) {
            super(name);
        }
    }

    private static final class Row {
        final int number;
        final char kind;
        final int frame;
        final List<Integer> literals;
        final int limit;
        int spread;
        int uses;
        boolean holds = true;

        Row(int number, char kind, int frame, List<Integer> literals, int limit) {
            this.number = number;
            this.kind = kind;
            this.frame = frame;
            this.literals = literals;
            this.limit = limit;
        }

        boolean isMetBy(boolean[] values) {
            int count = 0;
            for (int literal : literals) {
                count += values[Math.abs(literal) - 1] == literal > 0 ? 1 : 0;
            }
            return kind == 'x' ? count % 2 == limit : kind == 'm' ? count <= limit : count > 0;
        }
    }

    private static final class Entry {
        final int literal;
        final int level;
        final Row by;

        Entry(int literal, int level, Row by) {
            this.literal = literal;
            this.level = level;
            this.by = by;
        }
    }

    private static final class Line {
        final char kind;
        final Row row;

        Line(char kind, Row row) {
            this.kind = kind;
            this.row = row;
        }
    }

    private static final class Gone {
        final int variable;
        final List<Row> kept = new ArrayList<Row>();

        Gone(int variable) {
            this.variable = variable;
        }
    }

    /** What the document says, told as plainly as it can be. */
    private static final class Twin {
        int variables = 0;
        int told = 0;
        int frame = 0;
        char answer = '-';
        final List<Integer> typed = new ArrayList<Integer>();
        final List<Integer> assumed = new ArrayList<Integer>();
        final List<Row> rows = new ArrayList<Row>();
        final List<Line> lines = new ArrayList<Line>();
        final List<Gone> gone = new ArrayList<Gone>();
        final List<Entry> trail = new ArrayList<Entry>();
        final boolean[] phases = new boolean[12];
        final long[] activities = new long[12];
        final boolean[] model = new boolean[12];
        int level = 0;
        int modelVariables = 0;
        int modelRows = 0;
        int core = 0;
        String text = "";
        int conflictCount, decisionCount, restartCount, forgottenCount, putCount, learntCount, spreadSum;
        int leftOut, upperLearnt, resolventCount, broughtBack, chains, outOfBudget, doubleUses, raisedByZero;
        int emptyResolvents;

        String call(String name, int a, int b) throws Refused {
            switch (name) {
                case "addVariable": case "type": case "clear": case "addClause": case "addParity": case "addBound":
                    return callTelling(name, a);
                case "push": case "pop": case "frame": case "assume": case "dropAssumptions":
                    return callFrames(name, a);
                case "solve": case "answer": case "valueOf": case "core": case "isForced": case "eliminate":
                case "isEliminated":
                    return callSearching(name, a);
                case "constraints": case "constraintAt": case "kindOf": case "sizeOf": case "literalAt":
                case "frameOf": case "spreadOf": case "usesOf": case "writeConstraint":
                    return callRows(name, a, b);
                default:
                    return callFigures(name, a);
            }
        }

        static void refuse(boolean isSo, String name) throws Refused {
            if (isSo) {
                throw new Refused(name);
            }
        }

        boolean isLiteral(int literal) {
            return literal != 0 && Math.abs((long) literal) <= variables;
        }

        String callTelling(String name, int a) throws Refused {
            switch (name) {
                case "addVariable":
                    refuse(variables == 12, "IllegalStateException");
                    return "" + variables++;
                case "type":
                    refuse(!isLiteral(a) || typed.contains(a) || typed.contains(-a), "IllegalArgumentException");
                    refuse(typed.size() == 6, "IllegalStateException");
                    typed.add(a);
                    return "" + typed.size();
                case "clear": {
                    int size = typed.size();
                    typed.clear();
                    return "" + size;
                }
                case "addClause":
                    refuse(typed.isEmpty() || told == 50, "IllegalStateException");
                    return "" + tell('c', 0);
                case "addParity":
                    refuse(typed.isEmpty() || told == 50, "IllegalStateException");
                    return "" + tell('x', a);
                default:
                    refuse(a < 0 || a > 5, "IllegalArgumentException");
                    refuse(typed.isEmpty() || told == 50, "IllegalStateException");
                    return "" + tell('m', a);
            }
        }

        int tell(char kind, int limit) {
            List<Integer> literals = new ArrayList<Integer>(typed);
            typed.clear();
            told++;
            bringBackIn(variablesOf(literals));
            return enter(kind, frame, literals, limit, 't').number;
        }

        static TreeSet<Integer> variablesOf(List<Integer> literals) {
            TreeSet<Integer> some = new TreeSet<Integer>();
            for (int literal : literals) {
                some.add(Math.abs(literal) - 1);
            }
            return some;
        }

        Row enter(char kind, int home, List<Integer> literals, int limit, char line) {
            Row row = new Row(rows.size(), kind, home, literals, limit);
            rows.add(row);
            lines.add(new Line(line, row));
            return row;
        }

        void drop(Row row) {
            row.holds = false;
            lines.add(new Line('d', row));
        }

        Gone goneOf(int variable) {
            for (Gone one : gone) {
                if (one.variable == variable) {
                    return one;
                }
            }
            return null;
        }

        void bringBackIn(TreeSet<Integer> wanted) {
            for (int variable : wanted) {
                Gone one = goneOf(variable);
                if (one != null) {
                    gone.remove(one);
                    broughtBack++;
                    TreeSet<Integer> inThese = new TreeSet<Integer>();
                    for (Row row : one.kept) {
                        row.holds = true;
                        lines.add(new Line('t', row));
                        inThese.addAll(variablesOf(row.literals));
                    }
                    int before = broughtBack;
                    bringBackIn(inThese);
                    chains += broughtBack > before ? 1 : 0;
                }
            }
        }

        String callFrames(String name, int a) throws Refused {
            switch (name) {
                case "push":
                    refuse(frame == 4, "IllegalStateException");
                    return "" + ++frame;
                case "pop": {
                    refuse(frame == 0, "IllegalStateException");
                    int count = 0;
                    for (Row row : held()) {
                        if (row.frame == frame) {
                            drop(row);
                            count++;
                        }
                    }
                    frame--;
                    return "" + count;
                }
                case "frame":
                    return "" + frame;
                case "assume":
                    refuse(!isLiteral(a), "IllegalArgumentException");
                    refuse(assumed.size() == 6, "IllegalStateException");
                    assumed.add(a);
                    bringBackIn(variablesOf(Collections.singletonList(a)));
                    return "" + assumed.size();
                default: {
                    int size = assumed.size();
                    assumed.clear();
                    return "" + size;
                }
            }
        }

        List<Row> held() {
            List<Row> some = new ArrayList<Row>();
            for (Row row : rows) {
                if (row.holds) {
                    some.add(row);
                }
            }
            return some;
        }

        List<Row> heldAndKept() {
            List<Row> some = held();
            for (Gone one : gone) {
                some.addAll(one.kept);
            }
            return some;
        }

        String callSearching(String name, int a) throws Refused {
            switch (name) {
                case "solve":
                    refuse(a < 1 || a > 200, "IllegalArgumentException");
                    solve(a);
                    return "" + answer;
                case "answer":
                    return "" + answer;
                case "core":
                    refuse(answer != 'n', "NoSuchElementException");
                    return "" + core;
                case "isForced":
                    refuse(!isLiteral(a), "IllegalArgumentException");
                    return "" + isForced(a);
                default:
                    refuse(a < 0 || a >= variables, "IndexOutOfBoundsException");
            }
            switch (name) {
                case "valueOf":
                    refuse(answer != 'y' || a >= modelVariables, "NoSuchElementException");
                    return "" + model[a];
                case "eliminate":
                    refuse(goneOf(a) != null || frame > 0, "IllegalStateException");
                    return "" + eliminate(a);
                default:
                    return "" + (goneOf(a) != null);
            }
        }

        boolean isForced(int literal) {
            List<Entry> kept = new ArrayList<Entry>(trail);
            int puts = putCount;
            trail.clear();
            level = 0;
            boolean isSo = propagate(held()) != null || valueOn(literal) == 1;
            trail.clear();
            trail.addAll(kept);
            putCount = puts;
            return isSo;
        }

        /** 1 if a literal is true on the trail, -1 if it is false, 0 if its variable is not there. */
        int valueOn(int literal) {
            for (Entry entry : trail) {
                if (entry.literal == literal) {
                    return 1;
                }
                if (entry.literal == -literal) {
                    return -1;
                }
            }
            return 0;
        }

        /** Whether a constraint can't be met, tried with both values of what is open; extra is true besides. */
        boolean isFalse(Row row, int extra) {
            int fixed = 0;
            int open = 0;
            for (int literal : row.literals) {
                int value = literal == extra ? 1 : literal == -extra ? -1 : valueOn(literal);
                fixed += value == 1 ? 1 : 0;
                open += value == 0 ? 1 : 0;
            }
            for (int more = 0; more <= open; more++) {
                int count = fixed + more;
                if (row.kind == 'x' ? count % 2 == row.limit : row.kind == 'm' ? count <= row.limit : count > 0) {
                    return false;
                }
            }
            return true;
        }

        int firstForced(Row row) {
            for (int literal : row.literals) {
                if (valueOn(literal) == 0) {
                    if (isFalse(row, -literal)) {
                        return literal;
                    }
                    if (isFalse(row, literal)) {
                        return -literal;
                    }
                }
            }
            return 0;
        }

        Row propagate(List<Row> some) {
            while (true) {
                for (Row row : some) {
                    if (isFalse(row, 0)) {
                        return row;
                    }
                }
                boolean isPut = false;
                for (int i = 0; i < some.size() && !isPut; i++) {
                    int literal = firstForced(some.get(i));
                    if (literal != 0) {
                        trail.add(new Entry(literal, level, some.get(i)));
                        putCount++;
                        isPut = true;
                    }
                }
                if (!isPut) {
                    return null;
                }
            }
        }

        void leave(int upTo) {
            while (!trail.isEmpty() && trail.get(trail.size() - 1).level > upTo) {
                Entry entry = trail.remove(trail.size() - 1);
                phases[Math.abs(entry.literal) - 1] = entry.literal > 0;
            }
            level = Math.max(upTo, 0);
        }

        void solve(int budget) {
            answer = search(budget);
            if (answer == 'y') {
                for (int v = 0; v < variables; v++) {
                    model[v] = valueOn(v + 1) == 1;
                }
                for (int i = gone.size() - 1; i >= 0; i--) {
                    model[gone.get(i).variable] = false;
                    for (Row row : gone.get(i).kept) {
                        if (!row.isMetBy(model)) {
                            model[gone.get(i).variable] = true;
                        }
                    }
                }
                modelVariables = variables;
                modelRows = rows.size();
            }
            leave(-1);
            if (answer == 'n') {
                List<Integer> left = new ArrayList<Integer>();
                for (int i = 0; i < assumed.size(); i++) {
                    left.add(i);
                }
                for (Integer i = 0; i < assumed.size(); i++) {
                    left.remove(i);
                    if (models(left) > 0) {
                        left.add(i);
                    }
                }
                core = 0;
                for (int i : left) {
                    core += (int) Math.pow(2, i);
                }
            }
            outOfBudget += answer == '?' ? 1 : 0;
        }

        int models(List<Integer> indices) {
            int count = 0;
            List<Row> some = heldAndKept();
            boolean[] values = new boolean[12];
            for (int code = 0; code < 1 << variables; code++) {
                for (int v = 0; v < variables; v++) {
                    values[v] = (code >> v) % 2 == 1;
                }
                boolean isSo = true;
                for (int i = 0; i < indices.size() && isSo; i++) {
                    int literal = assumed.get(indices.get(i));
                    isSo = values[Math.abs(literal) - 1] == literal > 0;
                }
                for (int i = 0; i < some.size() && isSo; i++) {
                    isSo = some.get(i).isMetBy(values);
                }
                count += isSo ? 1 : 0;
            }
            return count;
        }

        char search(int budget) {
            List<Integer> spreads = new ArrayList<Integer>();
            int sinceRestart = 0;
            trail.clear();
            level = 0;
            while (true) {
                Row broken = propagate(held());
                if (broken != null) {
                    if (level == 0) {
                        return 'n';
                    }
                    conflictCount++;
                    Row learnt = learn(broken);
                    spreads.add(learnt.spread);
                    sinceRestart++;
                    if (spreads.size() == budget) {
                        return '?';
                    }
                    if (sinceRestart >= 3 && wantsRestart(spreads)) {
                        restartCount++;
                        sinceRestart = 0;
                        leave(0);
                    }
                    forget(learnt);
                } else if (level < assumed.size()) {
                    int literal = assumed.get(level);
                    if (valueOn(literal) == -1) {
                        return 'n';
                    }
                    level++;
                    if (valueOn(literal) == 0) {
                        trail.add(new Entry(literal, level, null));
                    }
                } else {
                    int best = -1;
                    for (int v = 0; v < variables; v++) {
                        boolean isOpen = valueOn(v + 1) == 0 && goneOf(v) == null;
                        if (isOpen && (best < 0 || activities[v] > activities[best])) {
                            best = v;
                        }
                    }
                    if (best < 0) {
                        return 'y';
                    }
                    decisionCount++;
                    level++;
                    trail.add(new Entry(phases[best] ? best + 1 : -best - 1, level, null));
                }
            }
        }

        boolean wantsRestart(List<Integer> spreads) {
            int sum = 0;
            for (int spread : spreads) {
                sum += spread;
            }
            int n = spreads.size();
            int last = spreads.get(n - 1) + spreads.get(n - 2) + spreads.get(n - 3);
            return last > 3 * (int) Math.floor((double) sum / n);
        }

        void forget(Row learnt) {
            List<Row> some = new ArrayList<Row>();
            for (Row row : held()) {
                if (row.kind == 'l') {
                    some.add(row);
                }
            }
            if (some.size() <= 8) {
                return;
            }
            for (Entry entry : trail) {
                some.remove(entry.by);
            }
            some.remove(learnt);
            some.removeIf(row -> row.spread <= 2);
            some.sort((x, y) -> x.spread != y.spread ? y.spread - x.spread
                    : x.uses != y.uses ? x.uses - y.uses : x.number - y.number);
            if (!some.isEmpty()) {
                drop(some.get(0));
                forgottenCount++;
            }
        }

        int placeOf(int literal) {
            for (int i = 0; i < trail.size(); i++) {
                if (Math.abs(trail.get(i).literal) == Math.abs(literal)) {
                    return i;
                }
            }
            return -1;
        }

        /** The clause of a constraint when only the entries ahead of a place are looked at. */
        List<Integer> clauseOf(Row row, int ahead) {
            List<Integer> clause = new ArrayList<Integer>();
            for (int literal : row.literals) {
                int place = placeOf(literal);
                if (place >= 0 && place < ahead) {
                    boolean isTrue = trail.get(place).literal == literal;
                    if (row.kind == 'x') {
                        clause.add(isTrue ? -literal : literal);
                    } else if (row.kind == 'm' && isTrue) {
                        clause.add(-literal);
                    } else if (row.kind != 'm' && !isTrue) {
                        clause.add(literal);
                    }
                }
            }
            return clause;
        }

        Entry entryOf(int literal) {
            return trail.get(placeOf(literal));
        }

        List<Integer> others(int literal) {
            return clauseOf(entryOf(literal).by, placeOf(literal));
        }

        Row learn(Row broken) {
            TreeSet<Integer> clause = new TreeSet<Integer>();
            TreeSet<Integer> ever = new TreeSet<Integer>();
            TreeSet<Integer> zeros = new TreeSet<Integer>();
            List<Row> used = new ArrayList<Row>();
            List<Row> framing = new ArrayList<Row>();
            takeIn(clauseOf(broken, trail.size()), clause, ever, zeros);
            used.add(broken);
            while (true) {
                int last = 0;
                int count = 0;
                for (int literal : clause) {
                    if (entryOf(literal).level == level) {
                        count++;
                        last = last == 0 || placeOf(literal) > placeOf(last) ? literal : last;
                    }
                }
                if (count <= 1) {
                    break;
                }
                clause.remove(last);
                takeIn(others(last), clause, ever, zeros);
                doubleUses += used.contains(entryOf(last).by) ? 1 : 0;
                used.add(entryOf(last).by);
            }
            framing.addAll(used);
            leaveOut(clause, zeros, framing);
            int frameBefore = greatestFrame(framing);
            gatherZeros(zeros, framing);
            raisedByZero += greatestFrame(framing) > frameBefore ? 1 : 0;
            for (Row row : new java.util.HashSet<Row>(used)) {
                row.uses++;
            }
            for (int literal : ever) {
                activities[Math.abs(literal) - 1] += 64;
            }
            for (int v = 0; v < 12; v++) {
                activities[v] -= (long) Math.floor(activities[v] / 8.0);
            }
            return hold(clause, greatestFrame(framing));
        }

        static int greatestFrame(List<Row> some) {
            int most = 0;
            for (Row row : some) {
                most = Math.max(most, row.frame);
            }
            return most;
        }

        void takeIn(List<Integer> more, TreeSet<Integer> clause, TreeSet<Integer> ever, TreeSet<Integer> zeros) {
            for (int literal : more) {
                if (entryOf(literal).level == 0) {
                    zeros.add(literal);
                } else {
                    clause.add(literal);
                    ever.add(literal);
                }
            }
        }

        void leaveOut(TreeSet<Integer> clause, TreeSet<Integer> zeros, List<Row> framing) {
            List<Integer> going = new ArrayList<Integer>();
            for (int literal : clause) {
                Entry entry = entryOf(literal);
                if (entry.level != level && entry.by != null) {
                    List<Integer> lower = new ArrayList<Integer>();
                    boolean isSo = true;
                    for (int other : others(literal)) {
                        boolean isZero = entryOf(other).level == 0;
                        isSo &= isZero || clause.contains(other);
                        if (isZero) {
                            lower.add(other);
                        }
                    }
                    if (isSo) {
                        going.add(literal);
                        zeros.addAll(lower);
                        framing.add(entry.by);
                    }
                }
            }
            leftOut += going.size();
            clause.removeAll(going);
        }

        void gatherZeros(TreeSet<Integer> zeros, List<Row> framing) {
            List<Integer> open = new ArrayList<Integer>(zeros);
            while (!open.isEmpty()) {
                int literal = open.remove(0);
                framing.add(entryOf(literal).by);
                for (int other : others(literal)) {
                    if (zeros.add(other)) {
                        open.add(other);
                    }
                }
            }
        }

        Row hold(TreeSet<Integer> clause, int home) {
            List<Integer> literals = new ArrayList<Integer>(clause);
            literals.sort((x, y) -> placeOf(y) - placeOf(x));
            TreeSet<Integer> levels = new TreeSet<Integer>();
            for (int literal : literals) {
                levels.add(entryOf(literal).level);
            }
            int back = 0;
            for (int i = 1; i < literals.size(); i++) {
                back = Math.max(back, entryOf(literals.get(i)).level);
            }
            leave(back);
            Row learnt = enter('l', home, literals, 0, 'a');
            learnt.spread = levels.size();
            learntCount++;
            spreadSum += learnt.spread;
            upperLearnt += home > 0 ? 1 : 0;
            return learnt;
        }

        int eliminate(int variable) throws Refused {
            boolean isRefused = assumed.contains(variable + 1) || assumed.contains(-variable - 1);
            List<Row> kept = new ArrayList<Row>();
            int unlearnt = 0;
            for (Row row : held()) {
                boolean isIn = row.literals.contains(variable + 1) || row.literals.contains(-variable - 1);
                isRefused |= isIn && (row.kind == 'x' || row.kind == 'm');
                if (isIn && row.kind != 'l') {
                    kept.add(row);
                }
            }
            for (Row row : heldAndKept()) {
                unlearnt += row.kind == 'l' ? 0 : 1;
            }
            List<List<Integer>> coming = new ArrayList<List<Integer>>();
            for (Row first : kept) {
                for (Row second : kept) {
                    if (first.literals.contains(variable + 1) && second.literals.contains(-variable - 1)) {
                        List<Integer> both = resolve(first, second, variable + 1);
                        if (both != null) {
                            coming.add(both);
                        }
                    }
                }
            }
            isRefused |= coming.size() > kept.size() || unlearnt + coming.size() > 100;
            refuse(isRefused, "UnsupportedOperationException");
            for (List<Integer> literals : coming) {
                enter('r', 0, literals, 0, 'a');
                resolventCount++;
                emptyResolvents += literals.isEmpty() ? 1 : 0;
            }
            for (Row row : held()) {
                if (row.literals.contains(variable + 1) || row.literals.contains(-variable - 1)) {
                    drop(row);
                }
            }
            Gone one = new Gone(variable);
            one.kept.addAll(kept);
            gone.add(one);
            return coming.size();
        }

        static List<Integer> resolve(Row first, Row second, int literal) {
            List<Integer> both = new ArrayList<Integer>(first.literals);
            both.remove(Integer.valueOf(literal));
            for (int other : second.literals) {
                if (other != -literal && both.contains(-other)) {
                    return null;
                }
                if (other != -literal && !both.contains(other)) {
                    both.add(other);
                }
            }
            return both;
        }

        String callRows(String name, int a, int b) throws Refused {
            List<Row> held = held();
            switch (name) {
                case "constraints":
                    return "" + held.size();
                case "constraintAt":
                    refuse(a < 0 || a >= held.size(), "IndexOutOfBoundsException");
                    return "" + held.get(a).number;
                default:
                    refuse(a < 0 || a >= rows.size() || !rows.get(a).holds, "IndexOutOfBoundsException");
            }
            Row row = rows.get(a);
            switch (name) {
                case "kindOf":
                    return "" + row.kind;
                case "sizeOf":
                    return "" + row.literals.size();
                case "literalAt":
                    refuse(b < 0 || b >= row.literals.size(), "NoSuchElementException");
                    return "" + row.literals.get(b);
                case "frameOf":
                    return "" + row.frame;
                case "spreadOf":
                    refuse(row.kind != 'l', "NoSuchElementException");
                    return "" + row.spread;
                case "usesOf":
                    return "" + row.uses;
                default:
                    text = written(row);
                    return text.length() + ":" + text;
            }
        }

        static String written(Row row) {
            List<String> parts = new ArrayList<String>();
            for (int literal : row.literals) {
                parts.add("" + literal);
            }
            if (row.kind == 'x') {
                parts.add(row.limit == 1 ? "odd" : "even");
            }
            if (row.kind == 'm') {
                parts.add("<=" + row.limit);
            }
            return parts.isEmpty() ? "-" : String.join(" ", parts);
        }

        String callFigures(String name, int a) throws Refused {
            switch (name) {
                case "activityOf":
                    refuse(a < 0 || a >= variables, "IndexOutOfBoundsException");
                    return "" + activities[a];
                case "phaseOf":
                    refuse(a < 0 || a >= variables, "IndexOutOfBoundsException");
                    return "" + phases[a];
                case "conflicts":
                    return "" + conflictCount;
                case "decisions":
                    return "" + decisionCount;
                case "restarts":
                    return "" + restartCount;
                case "forgotten":
                    return "" + forgottenCount;
                case "put":
                    return "" + putCount;
                case "meanSpread":
                    refuse(learntCount == 0, "ArithmeticException");
                    return "" + (double) spreadSum / (double) learntCount;
                case "learntShare":
                    refuse(held().isEmpty(), "ArithmeticException");
                    return "" + (float) held().stream().filter(row -> row.kind == 'l').count() / (float) held().size();
                default:
                    return callProof(name, a);
            }
        }

        String callProof(String name, int a) throws Refused {
            switch (name) {
                case "lines":
                    return "" + lines.size();
                case "lineKind":
                    refuse(a < 0 || a >= lines.size(), "IndexOutOfBoundsException");
                    return "" + lines.get(a).kind;
                case "lineNumber":
                    refuse(a < 0 || a >= lines.size(), "IndexOutOfBoundsException");
                    return "" + lines.get(a).row.number;
                case "isChecked":
                    return "" + isChecked();
                case "isModel": {
                    boolean isOld = variables != modelVariables || rows.size() != modelRows;
                    refuse(answer != 'y' || isOld, "NoSuchElementException");
                    boolean isSo = true;
                    for (Row row : heldAndKept()) {
                        isSo &= row.isMetBy(model);
                    }
                    return "" + isSo;
                }
                case "answerByTrying": {
                    List<Integer> all = new ArrayList<Integer>();
                    for (int i = 0; i < assumed.size(); i++) {
                        all.add(i);
                    }
                    return models(all) > 0 ? "y" : "n";
                }
                case "modelsByTrying":
                    return "" + models(new ArrayList<Integer>());
                default:
                    refuse(a < 0 || a >= text.length(), "IndexOutOfBoundsException");
                    return "" + text.charAt(a);
            }
        }

        boolean isChecked() {
            int puts = putCount;
            boolean isSo = true;
            List<Row> standing = new ArrayList<Row>();
            for (Line line : lines) {
                if (line.kind == 'a') {
                    trail.clear();
                    level = 0;
                    for (int literal : line.row.literals) {
                        trail.add(new Entry(-literal, 0, null));
                    }
                    isSo &= propagate(standing) != null;
                }
                if (line.kind == 'd') {
                    standing.remove(line.row);
                } else {
                    standing.add(line.row);
                }
            }
            trail.clear();
            putCount = puts;
            return isSo;
        }
    }
}
