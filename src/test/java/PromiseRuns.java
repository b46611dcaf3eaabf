import java.util.ArrayList;
import java.util.List;

/** Runs worked out by hand from the document, promise by promise: ordinary calls, edges and wrong inputs. */
public final class PromiseRuns {
    private static int wrong = 0;
    private static int looked = 0;

    private interface Call {
        Object now();
    }

    /** What a call answers, or throws; what the machine or the library throws by itself is told apart. */
    private static String of(Call call) {
        try {
            return "" + call.now();
        } catch (RuntimeException e) {
            boolean isOwn = e.getStackTrace()[0].getClassName().equals("ClauseHold");
            return (isOwn ? "" : "the machine's ") + e.getClass().getSimpleName();
        }
    }

    private static void due(String what, Call call, Object want) {
        looked++;
        String got = of(call);
        if (!got.equals("" + want)) {
            wrong++;
            System.out.println(what + " answered " + got + ", due is " + want);
        }
    }

    private static final String STATE = "IllegalStateException";
    private static final String ARGUMENT = "IllegalArgumentException";
    private static final String INDEX = "IndexOutOfBoundsException";
    private static final String ELEMENT = "NoSuchElementException";
    private static final String SUPPORT = "UnsupportedOperationException";
    private static final String ARITHMETIC = "ArithmeticException";

    private static ClauseHold with(int variables) {
        ClauseHold x = new ClauseHold();
        for (int i = 0; i < variables; i++) {
            x.addVariable();
        }
        return x;
    }

    private static void type(ClauseHold x, int... literals) {
        for (int literal : literals) {
            x.type(literal);
        }
    }

    private static int clause(ClauseHold x, int... literals) {
        type(x, literals);
        return x.addClause();
    }

    private static int parity(ClauseHold x, boolean isOdd, int... literals) {
        type(x, literals);
        return x.addParity(isOdd);
    }

    private static int bound(ClauseHold x, int most, int... literals) {
        type(x, literals);
        return x.addBound(most);
    }

    private static String written(ClauseHold x, int number) {
        int length = x.writeConstraint(number);
        StringBuilder text = new StringBuilder();
        for (int i = 0; i < length; i++) {
            text.append(x.textAt(i));
        }
        return text.toString();
    }

    private static String proof(ClauseHold x) {
        StringBuilder text = new StringBuilder();
        for (int i = 0; i < x.lines(); i++) {
            text.append(i > 0 ? " " : "").append(x.lineKind(i)).append(x.lineNumber(i));
        }
        return text.toString();
    }

    private static String held(ClauseHold x) {
        List<Integer> numbers = new ArrayList<Integer>();
        for (int i = 0; i < x.constraints(); i++) {
            numbers.add(x.constraintAt(i));
        }
        return numbers.toString();
    }

    private static String values(ClauseHold x, int variables) {
        StringBuilder text = new StringBuilder();
        for (int v = 0; v < variables; v++) {
            text.append(x.valueOf(v) ? '1' : '0');
        }
        return text.toString();
    }

    private static String phases(ClauseHold x, int variables) {
        StringBuilder text = new StringBuilder();
        for (int v = 0; v < variables; v++) {
            text.append(x.phaseOf(v) ? '1' : '0');
        }
        return text.toString();
    }

    private static String activities(ClauseHold x, int variables) {
        StringBuilder text = new StringBuilder();
        for (int v = 0; v < variables; v++) {
            text.append(v > 0 ? " " : "").append(x.activityOf(v));
        }
        return text.toString();
    }

    public static void main(String[] args) {
        newObject();
        addingVariables();
        typing();
        telling();
        tellingFifty();
        framing();
        assuming();
        budgets();
        models();
        cores();
        forcing();
        forcingLeavesNoTrace();
        eliminating();
        eliminatingRefused();
        eliminatingHundred();
        eliminatingOneMore();
        eliminatingBesideLearnt();
        bringingBack();
        bringingBackChains();
        bringingBackInFrames();
        modelsOfEliminated();
        emptyResolvent();
        holding();
        learning();
        leavingOut();
        framesOfLevelZero();
        framesOfWhatIsLeftOut();
        framesOfOneConflictAlone();
        restarting();
        usingUpTheBudget();
        parityReasons();
        boundReasons();
        usedOnceMore();
        decidingByPhase();
        assumptionLevels();
        writing();
        tryingAll();
        modelsGrowOld();
        System.out.println(looked + " answers looked at, " + wrong + " wrong");
        if (wrong != 0) {
            System.exit(1);
        }
    }

    private static void newObject() {
        ClauseHold x = new ClauseHold();
        due("p1 constraints", x::constraints, 0);
        due("p1 variable 0", () -> x.isEliminated(0), INDEX);
        due("p14 before the first search", x::answer, '-');
        due("p10 frame", x::frame, 0);
        due("p30 conflicts", x::conflicts, 0);
        due("p31 decisions", x::decisions, 0);
        due("p32 restarts", x::restarts, 0);
        due("p33 forgotten", x::forgotten, 0);
        due("p34 put", x::put, 0);
        due("p35 meanSpread", x::meanSpread, ARITHMETIC);
        due("p36 learntShare", x::learntShare, ARITHMETIC);
        due("p37 lines", x::lines, 0);
        due("p40 empty proof", x::isChecked, true);
        due("p42 nothing holds", x::answerByTrying, 'y');
        due("p43 nothing holds", x::modelsByTrying, 1);
        due("p45 empty text", () -> x.textAt(0), INDEX);
        due("p16 no search", x::core, ELEMENT);
        due("p41 no search", x::isModel, ELEMENT);
        due("p4 nothing typed", x::clear, 0);
        due("p12 nothing assumed", x::dropAssumptions, 0);
        due("p13 without variables", () -> x.solve(1), 'y');
        due("p41 without variables", x::isModel, true);
    }

    private static void addingVariables() {
        ClauseHold x = new ClauseHold();
        for (int i = 0; i < 12; i++) {
            int number = i;
            due("p2 variable " + i, x::addVariable, number);
            due("p28 activity at first", () -> x.activityOf(number), 0);
            due("p29 phase at first", () -> x.phaseOf(number), false);
        }
        due("p2 a thirteenth", x::addVariable, STATE);
        due("p2 a thirteenth changes nothing", () -> x.phaseOf(12), INDEX);
        due("p28 no such variable", () -> x.activityOf(12), INDEX);
        due("p28 negative", () -> x.activityOf(-1), INDEX);
        due("p29 negative", () -> x.phaseOf(-1), INDEX);
        due("p43 twelve free variables", x::modelsByTrying, 4096);
    }

    private static void typing() {
        ClauseHold x = with(7);
        due("p3 zero", () -> x.type(0), ARGUMENT);
        due("p3 no such variable", () -> x.type(8), ARGUMENT);
        due("p3 no such variable, negative", () -> x.type(-8), ARGUMENT);
        due("p3 least int", () -> x.type(Integer.MIN_VALUE), ARGUMENT);
        due("p3 greatest int", () -> x.type(Integer.MAX_VALUE), ARGUMENT);
        due("p3 first", () -> x.type(7), 1);
        due("p3 the same", () -> x.type(7), ARGUMENT);
        due("p3 the other sign", () -> x.type(-7), ARGUMENT);
        for (int i = 2; i <= 6; i++) {
            int count = i;
            due("p3 more", () -> x.type(-count), count);
        }
        due("p3 a seventh", () -> x.type(1), STATE);
        due("p3 a seventh that is typed", () -> x.type(2), ARGUMENT);
        due("p3 a seventh that is not there", () -> x.type(0), ARGUMENT);
        due("p4 six", x::clear, 6);
        due("p4 none", x::clear, 0);
        due("p3 after clear", () -> x.type(-7), 1);
    }

    private static void telling() {
        ClauseHold x = with(6);
        due("p5 nothing typed", x::addClause, STATE);
        due("p6 nothing typed", () -> x.addParity(true), STATE);
        due("p7 nothing typed", () -> x.addBound(0), STATE);
        due("p7 too small, nothing typed", () -> x.addBound(-1), ARGUMENT);
        due("p7 too great, nothing typed", () -> x.addBound(6), ARGUMENT);
        type(x, 1, -3);
        due("p7 too great", () -> x.addBound(6), ARGUMENT);
        due("p7 too small", () -> x.addBound(Integer.MIN_VALUE), ARGUMENT);
        due("p7 refused leaves what is typed", x::addClause, 0);
        due("p5 nothing typed then", x::clear, 0);
        type(x, 2, 4, 6);
        due("p6 odd", () -> x.addParity(true), 1);
        due("p6 nothing typed then", x::clear, 0);
        type(x, -5);
        due("p6 even", () -> x.addParity(false), 2);
        type(x, 1, 2, 3, 4, 5, 6);
        due("p7 five", () -> x.addBound(5), 3);
        due("p7 nothing typed then", x::clear, 0);
        type(x, 1);
        due("p7 none", () -> x.addBound(0), 4);
        due("p22 kinds", () -> "" + x.kindOf(0) + x.kindOf(1) + x.kindOf(2) + x.kindOf(3) + x.kindOf(4), "cxxmm");
        due("p44 clause", () -> written(x, 0), "1 -3");
        due("p44 odd", () -> written(x, 1), "2 4 6 odd");
        due("p44 even", () -> written(x, 2), "-5 even");
        due("p44 bound", () -> written(x, 3), "1 2 3 4 5 6 <=5");
        due("p44 bound 0", () -> written(x, 4), "1 <=0");
        due("p37 told lines", () -> proof(x), "t0 t1 t2 t3 t4");
        // literal 1 false, 3 false, 5 true, and an odd number of 2, 4, 6, of which the bound row forbids none
        due("p43 models", x::modelsByTrying, 4);
    }

    private static void tellingFifty() {
        ClauseHold x = with(2);
        x.push();
        for (int i = 0; i < 50; i++) {
            clause(x, 1, 2);
        }
        due("p9 fifty go", x::pop, 50);
        x.type(1);
        due("p5 a fifty-first", x::addClause, STATE);
        due("p6 a fifty-first", () -> x.addParity(true), STATE);
        due("p7 a fifty-first", () -> x.addBound(1), STATE);
        due("p7 a fifty-first out of range", () -> x.addBound(9), ARGUMENT);
        due("p4 refused leaves what is typed", x::clear, 1);
        due("p37 refused adds no line", x::lines, 100);
        due("p38 told", () -> x.lineKind(49), 't');
        due("p38 gone", () -> x.lineKind(50), 'd');
        due("p39 gone by rising numbers", () -> x.lineNumber(99), 49);
    }

    private static void framing() {
        ClauseHold x = with(3);
        due("p9 only frame 0", x::pop, STATE);
        clause(x, 1, 2);
        due("p8 first", x::push, 1);
        clause(x, 1, 3);
        due("p8 second", x::push, 2);
        clause(x, -1);
        due("p8 third", x::push, 3);
        due("p8 fourth", x::push, 4);
        due("p8 a fifth", x::push, STATE);
        due("p10 refused leaves it", x::frame, 4);
        clause(x, -2, -3);
        due("p25 frames", () -> "" + x.frameOf(0) + x.frameOf(1) + x.frameOf(2) + x.frameOf(3), "0124");
        due("p13 no model", () -> x.solve(9), 'n');
        due("p9 one goes", x::pop, 1);
        due("p9 none goes", x::pop, 0);
        due("p10 frame", x::frame, 2);
        due("p13 a model", () -> x.solve(9), 'y');
        due("p15 values", () -> values(x, 3), "011");
        due("p9 one goes", x::pop, 1);
        due("p20 two hold", () -> held(x), "[0, 1]");
        due("p22 gone", () -> x.kindOf(2), INDEX);
        due("p9 the last frame", x::pop, 1);
        due("p9 only frame 0 again", x::pop, STATE);
        due("p37 proof", () -> proof(x), "t0 t1 t2 t3 d3 d2 d1");
        due("p40 proof", x::isChecked, true);
    }

    private static void assuming() {
        ClauseHold x = with(2);
        due("p11 zero", () -> x.assume(0), ARGUMENT);
        due("p11 no such literal", () -> x.assume(3), ARGUMENT);
        due("p11 no such literal, negative", () -> x.assume(-3), ARGUMENT);
        due("p11 least int", () -> x.assume(Integer.MIN_VALUE), ARGUMENT);
        for (int i = 1; i <= 6; i++) {
            due("p11 assumptions may repeat", () -> x.assume(-2), i);
        }
        due("p11 a seventh", () -> x.assume(1), STATE);
        due("p11 a seventh that is not there", () -> x.assume(3), ARGUMENT);
        due("p13 under assumptions", () -> x.solve(1), 'y');
        due("p31 assumptions are no decisions", x::decisions, 1);
        due("p34 assumptions are not put by constraints", x::put, 0);
        due("p12 six", x::dropAssumptions, 6);
        due("p12 none", x::dropAssumptions, 0);
        due("p11 again", () -> x.assume(2), 1);
        due("p13 the other value", () -> x.solve(1), 'y');
        due("p15 the other value", () -> values(x, 2), "01");
    }

    private static void budgets() {
        ClauseHold x = with(1);
        due("p13 zero", () -> x.solve(0), ARGUMENT);
        due("p13 negative", () -> x.solve(-5), ARGUMENT);
        due("p13 too great", () -> x.solve(201), ARGUMENT);
        due("p14 refused is no search", x::answer, '-');
        due("p13 least", () -> x.solve(1), 'y');
        due("p13 greatest", () -> x.solve(200), 'y');
        clause(x, 1);
        clause(x, -1);
        due("p14 the last answer stays", x::answer, 'y');
        due("p13 conflict at level 0", () -> x.solve(1), 'n');
        due("p14 the last answer", x::answer, 'n');
        due("p30 level 0 is not counted", x::conflicts, 0);
        due("p27 level 0 is no use", () -> x.usesOf(0), 0);
        due("p34 put at level 0", x::put, 1);
        due("p29 left with the end", () -> x.phaseOf(0), true);
    }

    private static void models() {
        ClauseHold x = with(2);
        due("p15 no search", () -> x.valueOf(0), ELEMENT);
        due("p15 no such variable, no search", () -> x.valueOf(2), INDEX);
        due("p15 negative", () -> x.valueOf(-1), INDEX);
        clause(x, 2);
        x.solve(3);
        due("p15 values", () -> values(x, 2), "01");
        x.addVariable();
        due("p15 added since", () -> x.valueOf(2), ELEMENT);
        due("p15 there before", () -> x.valueOf(1), true);
        clause(x, -2);
        due("p15 stays when a constraint comes", () -> x.valueOf(1), true);
        due("p16 the answer is 'y'", x::core, ELEMENT);
        x.solve(3);
        due("p15 the answer is 'n'", () -> x.valueOf(1), ELEMENT);
        due("p41 the answer is 'n'", x::isModel, ELEMENT);
    }

    private static void cores() {
        ClauseHold x = with(4);
        clause(x, -1, -2);
        clause(x, -3, 4);
        x.assume(3);
        x.assume(1);
        x.assume(4);
        x.assume(2);
        due("p13 no model", () -> x.solve(5), 'n');
        due("p16 the two that clash", x::core, 10);
        x.assume(-1);
        due("p13 no model still", () -> x.solve(5), 'n');
        // each index is left out in turn: without 1 there are 2 and -1 left, which have a model, so that 1 stays
        due("p16 the first ones go", x::core, 18);
        x.dropAssumptions();
        due("p16 stays without the assumptions", x::core, 18);
        x.assume(-2);
        x.assume(-2);
        x.assume(2);
        due("p13 against themselves", () -> x.solve(5), 'n');
        due("p16 the later of two equal ones", x::core, 6);
        clause(x, 2);
        clause(x, -2);
        due("p13 without help", () -> x.solve(5), 'n');
        due("p16 none needed", x::core, 0);
    }

    private static void forcing() {
        ClauseHold x = with(6);
        clause(x, 1);
        parity(x, false, 1, -2);
        bound(x, 1, 1, 3, -4);
        due("p17 zero", () -> x.isForced(0), ARGUMENT);
        due("p17 no such literal", () -> x.isForced(7), ARGUMENT);
        due("p17 no such literal, negative", () -> x.isForced(-7), ARGUMENT);
        due("p17 least int", () -> x.isForced(Integer.MIN_VALUE), ARGUMENT);
        due("p17 by a clause", () -> x.isForced(1), true);
        due("p17 its other sign", () -> x.isForced(-1), false);
        due("p17 by a parity row", () -> x.isForced(-2), true);
        due("p17 by a parity row, other sign", () -> x.isForced(2), false);
        due("p17 by a bound row", () -> x.isForced(-3), true);
        due("p17 by a bound row, negative literal", () -> x.isForced(4), true);
        due("p17 open", () -> x.isForced(5), false);
        x.assume(5);
        due("p17 assumptions do not count", () -> x.isForced(5), false);
        clause(x, -1, 3);
        due("p17 a constraint is false", () -> x.isForced(5), true);
        due("p17 a constraint is false, other sign", () -> x.isForced(-5), true);
    }

    private static void forcingLeavesNoTrace() {
        ClauseHold x = with(2);
        clause(x, 1);
        due("p17 forced", () -> x.isForced(1), true);
        due("p34 not in a search", x::put, 0);
        due("p29 no phase", () -> x.phaseOf(0), false);
        due("p37 no line", x::lines, 1);
        due("p14 no answer", x::answer, '-');
    }

    private static void eliminating() {
        ClauseHold x = with(5);
        clause(x, 2, 1, 3);
        clause(x, -1, 4, 3);
        clause(x, 1, -4);
        clause(x, -1, -3);
        clause(x, 5, 2);
        // 0 with 1: 2 3 4; 0 with 3 and 2 with 1: both signs of a variable; 2 with 3: -4 -3
        due("p18 resolvents", () -> x.eliminate(0), 2);
        due("p19 eliminated", () -> x.isEliminated(0), true);
        due("p19 not eliminated", () -> x.isEliminated(1), false);
        due("p21 what holds", () -> held(x), "[4, 5, 6]");
        due("p44 resolvent", () -> written(x, 5), "2 3 4");
        due("p44 resolvent", () -> written(x, 6), "-4 -3");
        due("p22 resolvent", () -> x.kindOf(5), 'r');
        due("p25 resolvent", () -> x.frameOf(5), 0);
        due("p26 resolvent has no spread", () -> x.spreadOf(5), ELEMENT);
        due("p27 resolvent", () -> x.usesOf(5), 0);
        due("p37 proof", () -> proof(x), "t0 t1 t2 t3 t4 a5 a6 d0 d1 d2 d3");
        due("p40 proof", x::isChecked, true);
        due("p22 kept aside is not held", () -> x.kindOf(0), INDEX);
        due("p24 kept aside is not held", () -> x.literalAt(0, 0), INDEX);
        due("p18 without clauses", () -> with(1).eliminate(0), 0);
        due("p43 kept aside counts", x::modelsByTrying, 8);
    }

    private static void eliminatingRefused() {
        ClauseHold x = with(6);
        due("p18 no such variable", () -> x.eliminate(6), INDEX);
        due("p18 negative", () -> x.eliminate(-1), INDEX);
        due("p19 no such variable", () -> x.isEliminated(6), INDEX);
        due("p19 negative", () -> x.isEliminated(-1), INDEX);
        parity(x, true, 1, 2);
        bound(x, 1, 3, -4);
        x.assume(-5);
        due("p18 in a parity row", () -> x.eliminate(1), SUPPORT);
        due("p18 in a bound row", () -> x.eliminate(3), SUPPORT);
        due("p18 assumed", () -> x.eliminate(4), SUPPORT);
        x.push();
        due("p18 no such variable, in a frame", () -> x.eliminate(6), INDEX);
        due("p18 in a frame", () -> x.eliminate(5), STATE);
        due("p18 in a frame, and assumed", () -> x.eliminate(4), STATE);
        bound(x, 0, 6);
        x.pop();
        due("p18 the row is gone with its frame", () -> x.eliminate(5), 0);
        due("p18 eliminated", () -> x.eliminate(5), STATE);
        due("p19 refused changes nothing", () -> x.isEliminated(4), false);
        ClauseHold y = with(6);
        clause(y, 1, 2);
        clause(y, 1, 3);
        clause(y, -1, 4);
        clause(y, -1, 5);
        due("p18 as many as go", () -> y.eliminate(0), 4);
        ClauseHold z = with(6);
        clause(z, 1, 2);
        clause(z, 1, 3);
        clause(z, -1, 4);
        clause(z, -1, 5);
        clause(z, -1, 6);
        due("p18 more than go", () -> z.eliminate(0), SUPPORT);
        due("p18 refused changes nothing", () -> held(z), "[0, 1, 2, 3, 4]");
        due("p18 refused adds no line", z::lines, 5);
    }

    private static ClauseHold hundred(int fillers) {
        ClauseHold x = with(6);
        clause(x, 1, 2);
        for (int i = 0; i < 25; i++) {
            clause(x, -1, 3);
        }
        clause(x, -3, 4);
        clause(x, 5, 6);
        clause(x, -5, 6);
        for (int i = 0; i < fillers; i++) {
            clause(x, 6);
        }
        return x;
    }

    private static void eliminatingHundred() {
        ClauseHold x = hundred(21);
        due("p18 one with many", () -> x.eliminate(0), 25);
        due("p18 a hundred at last", () -> x.eliminate(2), 25);
        due("p18 a hundred and one", () -> x.eliminate(4), SUPPORT);
        due("p20 what holds", x::constraints, 48);
        due("p18 none more", () -> x.eliminate(1), 0);
        due("p40 proof", x::isChecked, true);
    }

    private static void eliminatingOneMore() {
        ClauseHold x = hundred(20);
        x.eliminate(0);
        x.eliminate(2);
        due("p18 up to a hundred", () -> x.eliminate(4), 1);
        due("p13 a model", () -> x.solve(200), 'y');
        due("p41 a model", x::isModel, true);
    }

    private static void eliminatingBesideLearnt() {
        ClauseHold x = with(11);
        clause(x, 1, 2);
        for (int i = 0; i < 25; i++) {
            clause(x, -1, 3);
        }
        clause(x, -3, 4);
        clause(x, 8, 9);
        clause(x, 8, 10);
        clause(x, -9, -10, 7);
        for (int i = 0; i < 20; i++) {
            clause(x, 11);
        }
        due("p13 answer", () -> x.solve(1), '?');
        due("p44 learnt", () -> written(x, 50), "8 7");
        due("p18 one with many", () -> x.eliminate(0), 25);
        due("p18 learnt clauses do not count to the hundred", () -> x.eliminate(2), 25);
    }

    private static void bringingBack() {
        ClauseHold x = with(4);
        clause(x, 1, 2);
        clause(x, -1, 3);
        x.eliminate(0);
        x.type(1);
        due("p3 typing brings nothing back", () -> x.isEliminated(0), true);
        x.type(4);
        due("p6 telling brings back", () -> x.addParity(false), 3);
        due("p19 back", () -> x.isEliminated(0), false);
        due("p21 what holds", () -> held(x), "[0, 1, 2, 3]");
        due("p37 behind the clauses that hold again", () -> proof(x), "t0 t1 a2 d0 d1 t0 t1 t3");
        due("p44 holds again", () -> written(x, 1), "-1 3");
        due("p40 proof", x::isChecked, true);
        due("p18 in a row now", () -> x.eliminate(0), SUPPORT);
        ClauseHold y = with(3);
        clause(y, 1, 2);
        y.eliminate(0);
        for (int i = 0; i < 6; i++) {
            y.assume(2);
        }
        due("p11 refused brings nothing back", () -> y.assume(-1), STATE);
        due("p11 refused brings nothing back", () -> y.isEliminated(0), true);
        y.dropAssumptions();
        due("p11 assuming brings back", () -> y.assume(-1), 1);
        due("p11 assuming brings back", () -> proof(y), "t0 d0 t0");
        due("p13 under it", () -> y.solve(1), 'y');
        due("p15 under it", () -> values(y, 3), "010");
        y.dropAssumptions();
        due("p18 once more", () -> y.eliminate(0), 0);
    }

    private static void bringingBackChains() {
        ClauseHold x = with(6);
        clause(x, 1, 4);
        clause(x, 1, 3);
        clause(x, 3, 5);
        clause(x, 4, 6);
        due("p18 first", () -> x.eliminate(0), 0);
        due("p18 second", () -> x.eliminate(2), 0);
        due("p18 third", () -> x.eliminate(3), 0);
        due("p21 none holds", x::constraints, 0);
        clause(x, 1, 5);
        due("p37 each with all that follows", () -> proof(x), "t0 t1 t2 t3 d0 d1 d2 d3 t0 t1 t2 t3 t4");
        x.eliminate(3);
        x.eliminate(2);
        due("p19 two away", () -> x.isEliminated(2) && x.isEliminated(3) && !x.isEliminated(0), true);
        clause(x, 4, 3);
        due("p37 several by rising numbers", () -> proof(x).substring(39), "d0 d3 d1 d2 t1 t2 t0 t3 t5");
        due("p21 all hold", () -> held(x), "[0, 1, 2, 3, 4, 5]");
    }

    private static void bringingBackInFrames() {
        ClauseHold x = with(3);
        clause(x, 1, 2);
        x.eliminate(0);
        x.push();
        clause(x, -1);
        due("p25 what comes back is of frame 0", () -> x.frameOf(0), 0);
        due("p25 what is told is of the last frame", () -> x.frameOf(1), 1);
        due("p9 the told one goes", x::pop, 1);
        due("p19 it stays back", () -> x.isEliminated(0), false);
        due("p21 what came back stays", () -> held(x), "[0]");
    }

    private static void modelsOfEliminated() {
        ClauseHold x = with(4);
        clause(x, 1, 2);
        clause(x, -1, 3);
        clause(x, 2, 4);
        clause(x, -2, 1);
        due("p18 first", () -> x.eliminate(0), 2);
        due("p21 what holds", () -> held(x), "[2, 4, 5]");
        due("p44 by rising numbers", () -> written(x, 4) + " and " + written(x, 5), "2 3 and -2 3");
        due("p18 second", () -> x.eliminate(1), 2);
        due("p44 of resolvents too", () -> written(x, 6) + " and " + written(x, 7), "4 3 and 3");
        due("p13 answer", () -> x.solve(1), 'y');
        due("p31 eliminated variables are not decided", x::decisions, 1);
        due("p29 eliminated variables have no phase", () -> phases(x, 4), "0010");
        // 3 is put and -4 decided; then 2 4 makes 2 true, and then -2 1 makes 1 true
        due("p15 the one that was eliminated last first", () -> values(x, 4), "1110");
        due("p41 model", x::isModel, true);
    }

    private static void emptyResolvent() {
        ClauseHold x = with(2);
        clause(x, 1);
        clause(x, -1);
        due("p18 one", () -> x.eliminate(0), 1);
        due("p23 no literals", () -> x.sizeOf(2), 0);
        due("p24 no literals", () -> x.literalAt(2, 0), ELEMENT);
        due("p44 length", () -> x.writeConstraint(2), 1);
        due("p45 a dash", () -> x.textAt(0), '-');
        due("p45 nothing behind it", () -> x.textAt(1), INDEX);
        due("p17 false", () -> x.isForced(2), true);
        due("p13 no model", () -> x.solve(1), 'n');
        due("p42 no model", x::answerByTrying, 'n');
        due("p43 no model", x::modelsByTrying, 0);
        due("p40 proof", x::isChecked, true);
    }

    private static void holding() {
        ClauseHold x = with(3);
        clause(x, -2, 1, 3);
        x.push();
        clause(x, 3);
        due("p21 index", () -> x.constraintAt(1), 1);
        due("p21 no such index", () -> x.constraintAt(2), INDEX);
        due("p21 negative", () -> x.constraintAt(-1), INDEX);
        due("p23 size", () -> x.sizeOf(0), 3);
        due("p24 literals", () -> "" + x.literalAt(0, 0) + x.literalAt(0, 1) + x.literalAt(0, 2), "-213");
        due("p24 no such index", () -> x.literalAt(0, 3), ELEMENT);
        due("p24 negative index", () -> x.literalAt(0, -1), ELEMENT);
        due("p24 no such constraint, no such index", () -> x.literalAt(2, -1), INDEX);
        x.pop();
        for (int number : new int[] {-1, 1, 2, Integer.MIN_VALUE, Integer.MAX_VALUE}) {
            due("p22 does not hold", () -> x.kindOf(number), INDEX);
            due("p23 does not hold", () -> x.sizeOf(number), INDEX);
            due("p24 does not hold", () -> x.literalAt(number, 0), INDEX);
            due("p25 does not hold", () -> x.frameOf(number), INDEX);
            due("p26 does not hold", () -> x.spreadOf(number), INDEX);
            due("p27 does not hold", () -> x.usesOf(number), INDEX);
            due("p44 does not hold", () -> x.writeConstraint(number), INDEX);
            due("p21 no such index", () -> x.constraintAt(number), INDEX);
        }
        due("p26 no learnt clause", () -> x.spreadOf(0), ELEMENT);
        for (int index : new int[] {-1, 3, Integer.MIN_VALUE, Integer.MAX_VALUE}) {
            due("p38 no such line", () -> x.lineKind(index), INDEX);
            due("p39 no such line", () -> x.lineNumber(index), INDEX);
        }
        due("p38 the last line", () -> x.lineKind(2), 'd');
        due("p39 the last line", () -> x.lineNumber(2), 1);
        due("p36 none is learnt", x::learntShare, 0.0f);
    }

    /**
     * -1 is decided and 1 3 puts 3, -2 is decided and puts 4 and 5, and -4 -5 1 is false. 5 and then 4 are
     * replaced by 2: 2 1 is learnt. At level 1 it puts 2; then 4, with its phase, is decided and -5 is put.
     */
    private static void learning() {
        ClauseHold x = with(5);
        clause(x, 1, 3);
        clause(x, 2, 4);
        clause(x, 2, 5);
        clause(x, -4, -5, 1);
        due("p13 answer", () -> x.solve(2), 'y');
        due("p15 values", () -> values(x, 5), "01110");
        due("p22 learnt", () -> x.kindOf(4), 'l');
        due("p44 learnt", () -> written(x, 4), "2 1");
        due("p26 spread", () -> x.spreadOf(4), 2);
        due("p25 frame", () -> x.frameOf(4), 0);
        due("p27 uses", () -> "" + x.usesOf(0) + x.usesOf(1) + x.usesOf(2) + x.usesOf(3) + x.usesOf(4), "01110");
        due("p28 activities", () -> activities(x, 5), "56 56 0 56 56");
        due("p29 phases", () -> phases(x, 5), "01110");
        due("p30 conflicts", x::conflicts, 1);
        due("p31 decisions", x::decisions, 3);
        due("p32 restarts", x::restarts, 0);
        due("p34 put", x::put, 5);
        due("p35 meanSpread", x::meanSpread, 2.0);
        due("p36 learntShare", x::learntShare, 0.2f);
        due("p37 proof", () -> proof(x), "t0 t1 t2 t3 a4");
        due("p40 proof", x::isChecked, true);
        due("p41 model", x::isModel, true);
        due("p18 learnt clauses go too and are no parents", () -> x.eliminate(1), 0);
        due("p37 learnt clauses go too", () -> proof(x).substring(15), "d1 d2 d4");
        due("p33 that is not forgetting", x::forgotten, 0);
        due("p35 all that were ever learnt", x::meanSpread, 2.0);
        due("p36 none holds", x::learntShare, 0.0f);
        x.assume(2);
        due("p21 what was learnt is gone for good", () -> held(x), "[0, 1, 2, 3]");
    }

    /** As above, but -3 is in the false clause too; it is left out, as 1 3, of frame 1, put 3. */
    private static void leavingOut() {
        ClauseHold x = with(5);
        clause(x, 2, 4);
        clause(x, 2, 5);
        clause(x, -4, -5, -3, 1);
        x.push();
        clause(x, 1, 3);
        due("p13 answer", () -> x.solve(1), '?');
        due("p44 learnt", () -> written(x, 4), "2 1");
        due("p25 the frame of what left a literal out", () -> x.frameOf(4), 1);
        due("p27 leaving out is no use", () -> x.usesOf(3), 0);
        due("p28 it was in the clause", () -> activities(x, 5), "56 56 56 56 56");
        due("p9 the learnt clause goes too", x::pop, 2);
        due("p37 by rising numbers", () -> proof(x), "t0 t1 t2 t3 a4 d3 d4");
        due("p40 proof", x::isChecked, true);
    }

    /** 7 of frame 1 puts 6 by a clause of frame 0 at the level 0; -6 is left out of the false clause. */
    private static void framesOfLevelZero() {
        ClauseHold x = with(7);
        clause(x, 2, 4);
        clause(x, 2, 5);
        clause(x, -4, -5, -6, 1);
        clause(x, -7, 6);
        x.push();
        clause(x, 7);
        x.push();
        clause(x, 3);
        due("p13 answer", () -> x.solve(200), 'y');
        due("p44 learnt", () -> written(x, 6), "2 1");
        due("p25 the frame of what put 7, back from 6", () -> x.frameOf(6), 1);
        due("p28 the level 0 is not in the clause", () -> activities(x, 7), "56 56 0 56 56 0 0");
        due("p27 the level 0 is no use", () -> "" + x.usesOf(3) + x.usesOf(4), "00");
        due("p9 what is of frame 2", x::pop, 1);
        due("p9 what is of frame 1", x::pop, 2);
    }

    /** -3 is left out, as 1 3 -6 put 3, and -6 is of the level 0, where 6 of frame 1 was put. */
    private static void framesOfWhatIsLeftOut() {
        ClauseHold x = with(6);
        clause(x, 2, 4);
        clause(x, 2, 5);
        clause(x, -4, -5, -3, 1);
        clause(x, 1, 3, -6);
        x.push();
        clause(x, 6);
        due("p13 answer", () -> x.solve(1), '?');
        due("p44 learnt", () -> written(x, 5), "2 1");
        due("p25 the frame of what put 6", () -> x.frameOf(5), 1);
    }

    /** The first conflict leaves out -6, which frame 1 put at the level 0; the second one has nothing to do with it. */
    private static void framesOfOneConflictAlone() {
        ClauseHold x = with(10);
        clause(x, 2, 4);
        clause(x, 2, 5);
        clause(x, -4, -5, -6, 1);
        clause(x, 8, 9);
        clause(x, 8, 10);
        clause(x, -9, -10, 7);
        x.push();
        clause(x, 6);
        due("p13 answer", () -> x.solve(2), '?');
        due("p44 first learnt", () -> written(x, 7), "2 1");
        due("p25 first learnt", () -> x.frameOf(7), 1);
        due("p44 second learnt", () -> written(x, 8), "8 7");
        due("p25 second learnt", () -> x.frameOf(8), 0);
    }

    /**
     * Three conflicts, with the spreads 2, 2 and 3: together 7, and their mean is rounded down to 2. Behind the
     * third one there is a restart, from which -1, -9, 11, -5, 7 and 3 are decided, by activity.
     */
    private static void restarting() {
        ClauseHold x = with(12);
        clause(x, 2, 3);
        clause(x, 2, 4);
        clause(x, -3, -4, 1);
        clause(x, 6, 7);
        clause(x, 6, 8);
        clause(x, -7, -8, 5);
        clause(x, 10, 11);
        clause(x, 10, 12);
        clause(x, -11, -12, 9, 1);
        due("p13 answer", () -> x.solve(200), 'y');
        due("p44 first learnt", () -> written(x, 9), "2 1");
        due("p44 second learnt", () -> written(x, 10), "6 5");
        due("p44 third learnt", () -> written(x, 11), "10 9 1");
        due("p26 spreads", () -> "" + x.spreadOf(9) + x.spreadOf(10) + x.spreadOf(11), "223");
        due("p30 conflicts", x::conflicts, 3);
        due("p32 restarts", x::restarts, 1);
        due("p31 decisions", x::decisions, 14);
        due("p34 put", x::put, 16);
        due("p35 meanSpread", x::meanSpread, 7.0 / 3.0);
        due("p36 learntShare", x::learntShare, 3.0f / 12.0f);
        due("p28 activities", () -> activities(x, 12), "99 43 43 43 49 49 49 49 56 56 56 56");
        due("p15 values", () -> values(x, 12), "011001100110");
        due("p33 none forgotten", x::forgotten, 0);
        ClauseHold y = with(12);
        clause(y, 2, 3);
        clause(y, 2, 4);
        clause(y, -3, -4, 1);
        clause(y, 6, 7);
        clause(y, 6, 8);
        clause(y, -7, -8, 5);
        clause(y, 10, 11);
        clause(y, 10, 12);
        clause(y, -11, -12, 9, 1);
        due("p13 the budget is used up", () -> y.solve(3), '?');
        due("p32 no restart with the answer '?'", y::restarts, 0);
    }

    private static void usingUpTheBudget() {
        ClauseHold x = with(5);
        clause(x, 1, 3);
        clause(x, 2, 4);
        clause(x, 2, 5);
        clause(x, -4, -5, 1);
        due("p13 out of budget", () -> x.solve(1), '?');
        due("p14 out of budget", x::answer, '?');
        due("p15 no model", () -> x.valueOf(0), ELEMENT);
        due("p16 no core", x::core, ELEMENT);
        due("p41 no model", x::isModel, ELEMENT);
        due("p30 counted", x::conflicts, 1);
        due("p21 learnt all the same", () -> held(x), "[0, 1, 2, 3, 4]");
        due("p29 phases", () -> phases(x, 5), "00111");
        due("p13 goes on with what was learnt", () -> x.solve(1), 'y');
        due("p31 decisions", x::decisions, 4);
    }

    /** -1 and -2 are decided; the row puts -3, as an odd number of 1 2 -3 must be true; 4 is put, -4 1 3 is false. */
    private static void parityReasons() {
        ClauseHold x = with(4);
        parity(x, true, 1, 2, -3);
        clause(x, 3, 4);
        clause(x, -4, 1, 3);
        due("p13 answer", () -> x.solve(9), 'y');
        // 4 is replaced by 3; 3 1 puts 3 at level 1, and the row puts 2; 4 is decided with its phase
        due("p44 learnt", () -> written(x, 3), "3 1");
        due("p27 uses", () -> "" + x.usesOf(0) + x.usesOf(1) + x.usesOf(2), "011");
        due("p26 spread", () -> x.spreadOf(3), 2);
        due("p28 activities", () -> activities(x, 4), "56 0 56 56");
        due("p31 decisions", x::decisions, 3);
        due("p15 values", () -> values(x, 4), "0111");
        due("p40 proof", x::isChecked, true);
    }

    /** 1 is assumed; of 3 1 2 at most one is true: the row puts -3 and -2, then 4 is put, and 2 -4 is false. */
    private static void boundReasons() {
        ClauseHold x = with(4);
        bound(x, 1, 3, 1, 2);
        clause(x, 2, 3, 4);
        clause(x, 2, -4);
        x.assume(1);
        due("p13 no model", () -> x.solve(9), 'n');
        // 4 is replaced by 2 3, then 2 and 3, both put by the row, by -1
        due("p44 learnt", () -> written(x, 3), "-1");
        due("p26 spread", () -> x.spreadOf(3), 1);
        due("p27 each used once more", () -> "" + x.usesOf(0) + x.usesOf(1) + x.usesOf(2), "111");
        due("p34 put", x::put, 4);
        due("p28 activities", () -> activities(x, 4), "56 56 56 56");
        due("p16 core", x::core, 1);
        due("p29 the phase of what was assumed", () -> x.phaseOf(0), false);
        due("p40 proof", x::isChecked, true);
    }

    /** The row puts -3 and is false itself then, as -3 puts 2 by a clause told ahead of it. */
    private static void usedOnceMore() {
        ClauseHold x = with(3);
        clause(x, 3, 2);
        bound(x, 1, 3, 1, 2);
        x.assume(1);
        due("p13 no model", () -> x.solve(9), 'n');
        due("p44 learnt", () -> written(x, 2), "-1");
        due("p27 each used once more", () -> "" + x.usesOf(0) + x.usesOf(1), "11");
        due("p34 put", x::put, 3);
        due("p40 proof", x::isChecked, true);
    }

    private static void decidingByPhase() {
        ClauseHold x = with(3);
        x.assume(2);
        x.solve(1);
        due("p29 the value when it left", () -> phases(x, 3), "010");
        x.dropAssumptions();
        x.solve(1);
        due("p15 decided with the phase", () -> values(x, 3), "010");
        due("p31 decisions", x::decisions, 5);
    }

    private static void assumptionLevels() {
        ClauseHold x = with(3);
        clause(x, -1, 2);
        x.assume(1);
        x.assume(2);
        x.assume(1);
        x.assume(3);
        due("p13 one on the trail is not put again", () -> x.solve(1), 'y');
        due("p34 put", x::put, 1);
        due("p31 none is decided", x::decisions, 0);
        x.assume(-2);
        due("p13 a false one", () -> x.solve(1), 'n');
        due("p16 core", x::core, 20);
        due("p30 no conflict", x::conflicts, 0);
    }

    private static void writing() {
        ClauseHold x = with(12);
        clause(x, -12, 1, -10);
        clause(x, 7);
        due("p44 length", () -> x.writeConstraint(0), 9);
        due("p45 first", () -> x.textAt(0), '-');
        due("p45 last", () -> x.textAt(8), '0');
        due("p45 behind it", () -> x.textAt(9), INDEX);
        due("p45 negative", () -> x.textAt(-1), INDEX);
        due("p44 refused", () -> x.writeConstraint(2), INDEX);
        due("p44 refused leaves the text", () -> x.textAt(8), '0');
        due("p44 in place of the text before", () -> x.writeConstraint(1), 1);
        due("p45 in place of the text before", () -> x.textAt(1), INDEX);
    }

    private static void tryingAll() {
        ClauseHold x = with(8);
        parity(x, true, 1, -8);
        bound(x, 2, 2, 3, -4);
        clause(x, 5, -7);
        due("p43 models", x::modelsByTrying, 2 * 7 * 3 * 2);
        x.assume(1);
        x.assume(7);
        due("p42 with assumptions", x::answerByTrying, 'y');
        due("p43 without the assumptions", x::modelsByTrying, 84);
        x.assume(-5);
        due("p42 no model", x::answerByTrying, 'n');
        due("p43 without the assumptions", x::modelsByTrying, 84);
        x.dropAssumptions();
        due("p42 now", x::answerByTrying, 'y');
        for (int n = 1; n <= 12; n++) {
            ClauseHold y = with(n);
            clause(y, n);
            int half = 1 << (n - 1);
            due("p43 half of all", y::modelsByTrying, half);
            y.eliminate(n - 1);
            due("p43 half of all, kept aside", y::modelsByTrying, half);
        }
    }

    private static void modelsGrowOld() {
        ClauseHold x = with(4);
        clause(x, 1, 2);
        clause(x, -1, 3);
        x.push();
        clause(x, 4);
        x.solve(9);
        due("p41 model", x::isModel, true);
        x.pop();
        due("p41 what goes does not matter", x::isModel, true);
        x.eliminate(3);
        due("p41 no resolvent", x::isModel, true);
        x.assume(4);
        due("p41 assuming does not matter", x::isModel, true);
        x.eliminate(0);
        due("p41 a resolvent was added", x::isModel, ELEMENT);
        x.solve(9);
        due("p41 model", x::isModel, true);
        x.addVariable();
        due("p41 a variable was added", x::isModel, ELEMENT);
        x.solve(9);
        clause(x, 2);
        due("p41 a constraint was added", x::isModel, ELEMENT);
    }
}
