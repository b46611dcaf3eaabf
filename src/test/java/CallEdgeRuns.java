/**
 * The edges of the calls, promise by promise: of each argument the last number that is allowed and the first that
 * is refused on each side, the least and the greatest int, the empty and the full object; and behind each refused
 * call a look that nothing has changed. What each row of a run means is told in Edges.
 */
public final class CallEdgeRuns {
    private static final String NEW = "";
    private static final String FREE = "vars(3)";
    /** -1 and -2 are decided, 4 and 5 put and -4 -5 1 is false, so that 2 1 is learnt as number 4. */
    private static final String TOLD = "vars(5) clause(1,3) clause(2,4) clause(2,5) clause(-4,-5,1)";
    private static final String MET = TOLD + " solve(9)";
    private static final String CUT = TOLD + " solve(1)";
    private static final String UNMET = "vars(4) clause(-1,-2) assume(3) assume(1) assume(2) solve(9)";
    /** The clauses 0 and 1 are kept aside, the resolvent 2 3 holds and is the text. */
    private static final String AWAY =
        "vars(4) clause(1,2) clause(-1,3) eliminate(0) solve(9) type(-4) type(1) writeConstraint(2)";
    /** 12 variables, 50 constraints told, 4 frames above the frame 0, 6 assumptions, 6 literals typed. */
    private static final String FULL = "vars(12) 41*clause(12,-11) push() 4*clause(9,8,7) push() 3*odd(1,2) push()"
        + " bound(1;3,4,5) push() clause(-1,6) assume(1) 2*assume(-2) assume(3) assume(-12) assume(12)"
        + " type(-1) type(2) type(-3) type(4) type(-5) type(6)";
    /** Rows that no values meet; a search over them comes to more than 200 conflicts. */
    private static final String HARD = "vars(12)"
        + " bound(3;2,-12,-1,9,8,-11) bound(3;12,8,1,2,-6,7) bound(3;5,8,12,9,4,6) bound(3;1,-7,5,-2,12,-10)"
        + " bound(3;-4,5,1,3,9,6) bound(3;-3,-1,-10,-7,-4,-12) odd(-3,-6,-11,-1,7,-8) odd(-3,9,-10,4,-5,-11)"
        + " clause(-3,10,-5,-4,-12,11) bound(3;-2,7,-5,6,4,-11) even(-3,9,5,7,-11,-2) bound(3;3,6,-10,1,4,-12)"
        + " clause(-1,-6,-12,11,-9,5) bound(3;-6,-4,1,-5,2,-11) odd(-2,-12,3,7,1,8) bound(3;-9,3,6,-11,-5,7)"
        + " clause(8,-9,-6,10,7,2) bound(3;2,7,-4,5,3,8) clause(11,10,-7,-2,-3,12) odd(6,-7,9,-3,-12,-10)"
        + " clause(7,2,5,-9,8,11) odd(12,8,-11,3,6,-1) clause(-2,8,11,9,1,4) bound(3;-2,5,-10,-11,-1,12)"
        + " bound(3;-3,-6,-5,-7,4,11) bound(3;3,9,-8,5,1,10) clause(-9,-12,3,-2,7,-11) odd(2,12,-1,11,9,-8)"
        + " even(2,-9,1,-5,-7,3) clause(8,7,-4,6,-2,-1)";

    private CallEdgeRuns() {
    }

    public static void main(String[] args) {
        emptyObject();
        fullObject();
        rangesOfAll();
        variables();
        typing();
        typingElsewhere();
        telling();
        tellingFifty();
        fiftyAreTold();
        frames();
        assumptions();
        budgets();
        conflictsAndBudgets();
        answersAndValues();
        valuesGrowOld();
        cores();
        forcing();
        eliminating();
        eliminatingRefused();
        asManyResolvents();
        hundredConstraints();
        whatHolds();
        whatHoldsNoMore();
        literalsOfConstraints();
        figures();
        shares();
        lines();
        models();
        trying();
        texts();
        Edges.end("CallEdgeRuns");
    }

    // ---- promise 1, and the empty and the full object

    private static void emptyObject() {
        Edges.run("P1 an empty object", NEW, "constraints() = 0", "lines() = 0", "answer() = -", "frame() = 0",
            "conflicts() = 0", "decisions() = 0", "restarts() = 0", "forgotten() = 0", "put() = 0",
            "isChecked() = true", "answerByTrying() = y", "modelsByTrying() = 1", "clear() = 0",
            "dropAssumptions() = 0", "solve(1) = y", "isModel() = true", "decisions() = 0", "put() = 0");
        Edges.run("P1 an empty object refuses", NEW, "type(1) = " + Edges.ARGUMENT, "addClause() = " + Edges.STATE,
            "addParity(true) = " + Edges.STATE, "addParity(false) = " + Edges.STATE, "addBound(0) = " + Edges.STATE,
            "addBound(5) = " + Edges.STATE, "addBound(6) = " + Edges.ARGUMENT, "addBound(-1) = " + Edges.ARGUMENT,
            "pop() = " + Edges.STATE, "assume(1) = " + Edges.ARGUMENT, "core() = " + Edges.ELEMENT,
            "isModel() = " + Edges.ELEMENT, "meanSpread() = " + Edges.ARITHMETIC,
            "learntShare() = " + Edges.ARITHMETIC);
        Edges.run("P1 two objects have nothing in common", FULL, "constraints() = 50");
        Edges.run("P1 two objects have nothing in common", NEW, "constraints() = 0", "addVariable() = 0");
    }

    private static void fullObject() {
        Edges.run("P2 to P18 a full object refuses", FULL, "addVariable() = " + Edges.STATE,
            "type(7) = " + Edges.STATE, "type(-12) = " + Edges.STATE, "type(6) = " + Edges.ARGUMENT,
            "type(1) = " + Edges.ARGUMENT, "addClause() = " + Edges.STATE, "addParity(true) = " + Edges.STATE,
            "addParity(false) = " + Edges.STATE, "addBound(0) = " + Edges.STATE, "addBound(5) = " + Edges.STATE,
            "push() = " + Edges.STATE, "assume(7) = " + Edges.STATE, "assume(-12) = " + Edges.STATE,
            "eliminate(0) = " + Edges.STATE, "eliminate(11) = " + Edges.STATE);
        Edges.run("P12 and P4 and P9 a full object is emptied", FULL, "clear() = 6", "clear() = 0",
            "dropAssumptions() = 6", "dropAssumptions() = 0", "pop() = 1", "pop() = 1", "pop() = 3", "pop() = 4",
            "pop() = " + Edges.STATE, "constraints() = 41", "addVariable() = " + Edges.STATE, "type(1) = 1",
            "addClause() = " + Edges.STATE, "assume(12) = 1", "push() = 1");
    }

    private static void rangesOfAll() {
        ranges(NEW, 0, 0, 0, 0);
        ranges(FREE, 3, 0, 0, 0);
        ranges(MET, 5, 5, 5, 0);
        ranges(CUT, 5, 5, 5, 0);
        ranges(UNMET, 4, 1, 1, 0);
        ranges(AWAY, 4, 1, 5, 3);
        ranges(FULL, 12, 50, 50, 0);
    }

    /** All ranges of numbers; so many variables, constraints that hold, lines and characters are there. */
    private static void ranges(String script, int variables, int held, int lines, int text) {
        for (String call : new String[] {"valueOf(#)", "eliminate(#)", "isEliminated(#)", "activityOf(#)",
            "phaseOf(#)"}) {
            Edges.range("P15 P18 P19 P28 P29", script, call, 0, variables - 1, Edges.INDEX);
        }
        Edges.literals("P3", script, "type(#)", variables);
        Edges.literals("P11", script, "assume(#)", variables);
        Edges.literals("P17", script, "isForced(#)", variables);
        Edges.range("P7", script, "addBound(#)", 0, 5, Edges.ARGUMENT);
        Edges.range("P13", script, "solve(#)", 1, 200, Edges.ARGUMENT);
        Edges.range("P21", script, "constraintAt(#)", 0, held - 1, Edges.INDEX);
        Edges.range("P38", script, "lineKind(#)", 0, lines - 1, Edges.INDEX);
        Edges.range("P39", script, "lineNumber(#)", 0, lines - 1, Edges.INDEX);
        Edges.range("P45", script, "textAt(#)", 0, text - 1, Edges.INDEX);
        int first = script.equals(AWAY) ? 2 : 0;
        for (String call : new String[] {"kindOf(#)", "sizeOf(#)", "frameOf(#)", "spreadOf(#)", "usesOf(#)",
            "writeConstraint(#)", "literalAt(#,0)", "literalAt(#,-1)", "literalAt(#,2147483647)"}) {
            Edges.range("P22 to P27, P44", script, call, first, first + held - 1, Edges.INDEX);
        }
        if (held > 0) {
            Edges.range("P24", script, "literalAt(" + first + ",#)", 0, 1, Edges.ELEMENT);
        }
    }

    // ---- promises 2 to 7

    private static void variables() {
        Edges.run("P2 the first", NEW, "addVariable() = 0", "addVariable() = 1");
        Edges.run("P2 the twelfth and one more", "vars(11)", "addVariable() = 11", "addVariable() = " + Edges.STATE,
            "phaseOf(11) = false", "phaseOf(12) = " + Edges.INDEX);
        Edges.run("P2 eliminated ones are there still", "vars(12) eliminate(0) eliminate(11)",
            "addVariable() = " + Edges.STATE, "isEliminated(11) = true");
        Edges.run("P2 the literals 12 and -12", "vars(12)", "type(12) = 1", "type(-11) = 2",
            "type(13) = " + Edges.ARGUMENT, "type(-13) = " + Edges.ARGUMENT, "assume(-12) = 1",
            "assume(13) = " + Edges.ARGUMENT, "isForced(-12) = false", "isForced(13) = " + Edges.ARGUMENT,
            "addBound(0) = 0", "isForced(-12) = true", "isForced(11) = true", "solve(1) = y",
            "valueOf(11) = false", "valueOf(10) = true");
    }

    private static void typing() {
        Edges.run("P3 seven variables", "vars(7)", "type(8) = " + Edges.ARGUMENT, "type(-8) = " + Edges.ARGUMENT,
            "type(0) = " + Edges.ARGUMENT, "type(7) = 1", "type(7) = " + Edges.ARGUMENT,
            "type(-7) = " + Edges.ARGUMENT, "type(-1) = 2", "type(1) = " + Edges.ARGUMENT,
            "type(-1) = " + Edges.ARGUMENT, "type(2) = 3", "type(-3) = 4", "type(4) = 5", "type(-5) = 6",
            "type(6) = " + Edges.STATE, "type(-6) = " + Edges.STATE, "type(5) = " + Edges.ARGUMENT,
            "type(7) = " + Edges.ARGUMENT, "type(8) = " + Edges.ARGUMENT, "type(0) = " + Edges.ARGUMENT,
            "clear() = 6", "type(6) = 1", "type(5) = 2");
        Edges.run("P3 one variable", "vars(1)", "type(2) = " + Edges.ARGUMENT, "type(-2) = " + Edges.ARGUMENT,
            "type(-1) = 1", "type(1) = " + Edges.ARGUMENT, "clear() = 1", "type(1) = 1");
        Edges.run("P3 in the order in which they are typed", "vars(6)", "type(6) = 1", "type(-2) = 2",
            "type(4) = 3", "addClause() = 0", "written(0) = 6 -2 4");
    }

    private static void typingElsewhere() {
        Edges.run("P3 a literal comes with its variable", "vars(2)", "type(3) = " + Edges.ARGUMENT,
            "addVariable() = 2", "type(3) = 1", "type(-3) = " + Edges.ARGUMENT);
        Edges.run("P3 an eliminated one stays so", "vars(2) clause(1,2) eliminate(0)", "type(-1) = 1",
            "isEliminated(0) = true", "constraints() = 0", "clear() = 1", "isEliminated(0) = true");
        Edges.run("P4 what is typed stays behind other calls", "vars(3) type(2) type(-1)", "solve(1) = y",
            "push() = 1", "assume(3) = 1", "pop() = 0", "dropAssumptions() = 1", "clear() = 2", "clear() = 0");
        Edges.run("P4 nothing is typed", "vars(1)", "clear() = 0", "addClause() = " + Edges.STATE, "type(1) = 1",
            "clear() = 1", "addClause() = " + Edges.STATE, "addParity(true) = " + Edges.STATE,
            "addBound(0) = " + Edges.STATE);
    }

    private static void telling() {
        Edges.run("P5 to P7 nothing is typed", "vars(6)", "addClause() = " + Edges.STATE,
            "addParity(true) = " + Edges.STATE, "addParity(false) = " + Edges.STATE, "addBound(0) = " + Edges.STATE,
            "addBound(5) = " + Edges.STATE, "addBound(-1) = " + Edges.ARGUMENT, "addBound(6) = " + Edges.ARGUMENT,
            "addBound(2147483647) = " + Edges.ARGUMENT, "addBound(-2147483648) = " + Edges.ARGUMENT);
        Edges.run("P7 something is typed", "vars(6) type(1)", "addBound(-1) = " + Edges.ARGUMENT,
            "addBound(6) = " + Edges.ARGUMENT, "addBound(5) = 0", "addBound(5) = " + Edges.STATE,
            "written(0) = 1 <=5", "type(-2) = 1", "addBound(0) = 1", "clear() = 0", "written(1) = -2 <=0");
        Edges.run("P5 to P7 one literal", "vars(4)", "clause(-1) = 0", "odd(2) = 1", "even(3) = 2",
            "bound(0;4) = 3", "modelsByTrying() = 1", "sizeOf(0) = 1", "sizeOf(3) = 1", "kinds() = cxxm",
            "solve(1) = y", "values() = 0100", "decisions() = 0", "put() = 4");
        Edges.run("P5 to P7 six literals", "vars(6)", "clause(1,2,3,4,5,6) = 0", "odd(1,2,3,4,5,6) = 1",
            "even(-1,2,3,4,5,6) = 2", "bound(5;1,2,3,4,5,6) = 3", "sizeOf(0) = 6", "sizeOf(1) = 6", "sizeOf(3) = 6",
            "modelsByTrying() = 32", "frames() = 0 0 0 0");
        Edges.run("P5 to P7 nothing is typed then", "vars(2) type(1)", "addClause() = 0",
            "addClause() = " + Edges.STATE, "type(1) = 1", "addParity(false) = 1", "addParity(true) = " + Edges.STATE,
            "type(1) = 1", "addBound(1) = 2", "addBound(1) = " + Edges.STATE);
    }

    private static void tellingFifty() {
        for (String fiftieth : new String[] {"clause(1)", "odd(1)", "even(1)", "bound(0;1)", "bound(5;1)"}) {
            Edges.run("P5 to P7 the fiftieth and one more", "vars(2) 49*clause(1,2)", fiftieth + " = 49",
                "type(2) = 1", "addClause() = " + Edges.STATE, "addParity(true) = " + Edges.STATE,
                "addParity(false) = " + Edges.STATE, "addBound(0) = " + Edges.STATE, "addBound(5) = " + Edges.STATE,
                "addBound(6) = " + Edges.ARGUMENT, "addBound(-1) = " + Edges.ARGUMENT, "type(-1) = 2",
                "clear() = 2", "addClause() = " + Edges.STATE, "addBound(6) = " + Edges.ARGUMENT,
                "constraints() = 50", "lines() = 50");
        }
    }

    private static void fiftyAreTold() {
        Edges.run("P5 fifty were told, though none holds", "vars(1) push() 50*clause(1) pop() type(1)",
            "constraints() = 0", "addClause() = " + Edges.STATE, "addParity(true) = " + Edges.STATE,
            "addBound(1) = " + Edges.STATE, "clear() = 1");
        // the resolvent 2, and the two clauses that hold again, were not told
        Edges.run("P5 resolvents and what is brought back are not told",
            "vars(4) clause(1,2) clause(-1,3) eliminate(0) clause(1,4) 46*clause(4)", "clause(4) = 50",
            "type(4) = 1", "addClause() = " + Edges.STATE, "constraints() = 51", "lines() = 55");
        Edges.run("P5 learnt clauses are not told", CUT + " 45*clause(5)", "clause(5) = 50", "type(5) = 1",
            "addClause() = " + Edges.STATE, "kindOf(4) = l", "constraints() = 51");
    }

    // ---- promises 8 to 12

    private static void frames() {
        Edges.run("P8 to P10 four frames and one more", NEW, "pop() = " + Edges.STATE, "frame() = 0", "push() = 1",
            "frame() = 1", "push() = 2", "push() = 3", "push() = 4", "frame() = 4", "push() = " + Edges.STATE,
            "frame() = 4", "pop() = 0", "frame() = 3", "push() = 4", "push() = " + Edges.STATE, "pop() = 0",
            "pop() = 0", "pop() = 0", "pop() = 0", "frame() = 0", "pop() = " + Edges.STATE, "push() = 1");
        Edges.run("P9 what is of the frame 0 never goes", "vars(2) clause(1) push()", "pop() = 0",
            "pop() = " + Edges.STATE, "held() = 0");
        Edges.run("P9 each frame with its own", "vars(2) clause(1) push() clause(2) push() push() 3*clause(1,2)",
            "frames() = 0 1 3 3 3", "pop() = 3", "pop() = 0", "pop() = 1", "pop() = " + Edges.STATE, "held() = 0",
            "proof() = t0 t1 t2 t3 t4 d2 d3 d4 d1");
        Edges.run("P9 learnt clauses go with their frame", "vars(5) clause(1,3) clause(2,4) clause(2,5) push()"
            + " clause(-4,-5,1) solve(1)", "frames() = 0 0 0 1 1", "kinds() = ccccl", "pop() = 2", "held() = 0 1 2");
        Edges.run("P9 learnt clauses of the frame 0 stay", TOLD + " push() solve(1)", "frameOf(4) = 0",
            "pop() = 0", "held() = 0 1 2 3 4");
    }

    private static void assumptions() {
        Edges.run("P11 six and one more", "vars(2)", "assume(0) = " + Edges.ARGUMENT, "assume(2) = 1",
            "assume(2) = 2", "assume(-2) = 3", "assume(1) = 4", "assume(-1) = 5", "assume(3) = " + Edges.ARGUMENT,
            "assume(-3) = " + Edges.ARGUMENT, "assume(2) = 6", "assume(2) = " + Edges.STATE,
            "assume(-1) = " + Edges.STATE, "assume(3) = " + Edges.ARGUMENT, "assume(0) = " + Edges.ARGUMENT,
            "dropAssumptions() = 6", "dropAssumptions() = 0", "assume(-1) = 1");
        Edges.run("P11 refused brings nothing back", "vars(2) clause(1,2) eliminate(0) 6*assume(2)",
            "assume(1) = " + Edges.STATE, "assume(-1) = " + Edges.STATE, "isEliminated(0) = true", "lines() = 2",
            "dropAssumptions() = 6", "assume(1) = 1", "isEliminated(0) = false", "proof() = t0 d0 t0");
        Edges.run("P11 a sixth brings back", "vars(2) clause(1,2) eliminate(0) 5*assume(2)", "assume(-1) = 6",
            "isEliminated(0) = false", "solve(1) = y", "values() = 01");
        Edges.run("P12 nothing is brought away again", "vars(2) clause(1,2) eliminate(0) assume(1)",
            "dropAssumptions() = 1", "isEliminated(0) = false", "held() = 0");
    }

    // ---- promises 13 to 17

    private static void budgets() {
        Edges.run("P13 the edges of the budget", "vars(1)", "solve(0) = " + Edges.ARGUMENT,
            "solve(201) = " + Edges.ARGUMENT, "solve(-1) = " + Edges.ARGUMENT, "answer() = -", "solve(1) = y",
            "solve(201) = " + Edges.ARGUMENT, "answer() = y", "solve(200) = y", "solve(0) = " + Edges.ARGUMENT);
        Edges.run("P14 refused is no search", "vars(1) clause(1) clause(-1)", "solve(0) = " + Edges.ARGUMENT,
            "answer() = -", "solve(200) = n", "solve(201) = " + Edges.ARGUMENT, "answer() = n", "core() = 0");
        Edges.run("P14 the last answer stays", "vars(1) solve(1)", "clause(1) = 0", "clause(-1) = 1", "answer() = y",
            "push() = 1", "pop() = 0", "assume(1) = 1", "answer() = y", "solve(1) = n", "answer() = n");
    }

    private static void conflictsAndBudgets() {
        String four = "vars(12) pair(3;1,2) pair(6;4,5) pair(9;7,8) pair(12;10,11)";
        Edges.run("P13 one conflict less than there are", four, "solve(3) = ?", "conflicts() = 3");
        Edges.run("P13 as many conflicts as there are", four, "solve(4) = ?", "conflicts() = 4", "answer() = ?");
        Edges.run("P13 one conflict more than there are", four, "solve(5) = y", "conflicts() = 4");
        Edges.run("P13 those of other searches are not counted", four, "solve(2) = ?", "solve(2) = ?",
            "conflicts() = 4", "solve(1) = y", "conflicts() = 4");
        Edges.run("P13 a conflict at the level 0 is not counted", "vars(1) clause(1) clause(-1)", "solve(1) = n",
            "conflicts() = 0", "put() = 1", "uses() = 0 0", "activityOf(0) = 0", "lines() = 2",
            "meanSpread() = " + Edges.ARITHMETIC);
        // -1 is decided: 2 is put and 1 -2 is false; 1 is learnt; with it -1 -2 is false at the level 0
        String both = "vars(2) clause(1,2) clause(1,-2) clause(-1,2) clause(-1,-2)";
        Edges.run("P13 the budget is used up ahead of the level 0", both, "solve(1) = ?", "conflicts() = 1",
            "solve(1) = n", "conflicts() = 1", "core() = 0");
        Edges.run("P13 the level 0 is reached", both, "solve(2) = n", "conflicts() = 1");
        Edges.run("P13 all of the greatest budget", HARD, "solve(200) = ?", "conflicts() = 200", "answer() = ?",
            "isChecked() = true", "solve(200) = n", "conflicts() = 210");
        Edges.run("P13 one less", HARD, "solve(199) = ?", "conflicts() = 199", "solve(1) = ?", "conflicts() = 200");
    }

    private static void answersAndValues() {
        Edges.run("P15 no search", FREE, "valueOf(0) = " + Edges.ELEMENT, "valueOf(2) = " + Edges.ELEMENT,
            "valueOf(3) = " + Edges.INDEX, "valueOf(-1) = " + Edges.INDEX);
        Edges.run("P15 no variable", NEW, "valueOf(0) = " + Edges.INDEX, "solve(1) = y",
            "valueOf(0) = " + Edges.INDEX, "addVariable() = 0", "valueOf(0) = " + Edges.ELEMENT);
        Edges.run("P15 the answer is '?'", CUT, "valueOf(0) = " + Edges.ELEMENT, "valueOf(4) = " + Edges.ELEMENT,
            "valueOf(5) = " + Edges.INDEX, "core() = " + Edges.ELEMENT, "isModel() = " + Edges.ELEMENT);
        Edges.run("P15 the answer is 'n'", UNMET, "valueOf(0) = " + Edges.ELEMENT, "valueOf(4) = " + Edges.INDEX,
            "isModel() = " + Edges.ELEMENT, "core() = 6");
        Edges.run("P15 the answer is 'y'", MET, "valueOf(0) = false", "valueOf(4) = false", "values() = 01110",
            "valueOf(5) = " + Edges.INDEX, "core() = " + Edges.ELEMENT, "isModel() = true");
    }

    private static void valuesGrowOld() {
        Edges.run("P15 a variable that was added since", MET, "addVariable() = 5", "valueOf(5) = " + Edges.ELEMENT,
            "valueOf(4) = false", "valueOf(6) = " + Edges.INDEX, "addVariable() = 6",
            "valueOf(5) = " + Edges.ELEMENT, "valueOf(6) = " + Edges.ELEMENT, "valueOf(7) = " + Edges.INDEX,
            "solve(9) = y", "valueOf(5) = false", "valueOf(6) = false");
        Edges.run("P15 the model stays until the next search", MET, "clause(-2) = 5", "valueOf(1) = true",
            "push() = 1", "clause(2) = 6", "valueOf(1) = true", "pop() = 1", "valueOf(1) = true", "solve(1) = y",
            "valueOf(1) = false", "values() = 10111");
        Edges.run("P15 a new search takes the model away", MET, "assume(-1) = 1", "assume(-3) = 2",
            "valueOf(2) = true", "solve(9) = n", "valueOf(2) = " + Edges.ELEMENT, "core() = 3",
            "dropAssumptions() = 2", "solve(1) = y", "valueOf(2) = true", "core() = " + Edges.ELEMENT);
        // 2 is decided false, so that 1 2, which is kept aside, needs 1
        Edges.run("P15 what is brought back keeps its value", "vars(2) clause(1,2) eliminate(0) solve(1)",
            "values() = 10", "assume(-1) = 1", "isEliminated(0) = false", "values() = 10");
    }

    private static void cores() {
        Edges.run("P16 no search, or another answer", FREE, "core() = " + Edges.ELEMENT, "solve(1) = y",
            "core() = " + Edges.ELEMENT);
        Edges.run("P16 the core stays", UNMET, "core() = 6", "dropAssumptions() = 3", "core() = 6", "push() = 1",
            "clause(1) = 1", "core() = 6", "pop() = 1", "addVariable() = 4", "core() = 6",
            "solve(0) = " + Edges.ARGUMENT, "core() = 6", "solve(1) = y", "core() = " + Edges.ELEMENT);
        Edges.run("P16 no assumption", "vars(1) clause(1) clause(-1)", "solve(1) = n", "core() = 0");
        Edges.run("P16 all six", "vars(6) bound(5;1,2,3,4,5,6) assume(1) assume(2) assume(3) assume(4) assume(5)"
            + " assume(6)", "solve(1) = n", "core() = 63", "conflicts() = 0");
        Edges.run("P16 the first one alone", "vars(6) clause(-1) assume(1) 5*assume(2)", "solve(1) = n",
            "core() = 1");
        Edges.run("P16 the last one alone", "vars(6) clause(-1) 5*assume(2) assume(1)", "solve(1) = n",
            "core() = 32");
        Edges.run("P16 none of six", "vars(6) clause(-1) clause(1) assume(1) 5*assume(2)", "solve(1) = n",
            "core() = 0");
    }

    private static void forcing() {
        Edges.run("P17 nothing is forced", FREE, "isForced(1) = false", "isForced(-1) = false",
            "isForced(3) = false", "isForced(-3) = false", "isForced(4) = " + Edges.ARGUMENT);
        Edges.run("P17 a constraint is false", "vars(2) clause(1) clause(-1)", "isForced(1) = true",
            "isForced(-1) = true", "isForced(2) = true", "isForced(-2) = true", "isForced(3) = " + Edges.ARGUMENT,
            "isForced(0) = " + Edges.ARGUMENT, "put() = 0", "phases() = 00", "answer() = -");
        Edges.run("P17 frames that are popped", "vars(2) push() clause(-2)", "isForced(-2) = true",
            "isForced(2) = false", "pop() = 1", "isForced(-2) = false");
        Edges.run("P17 one that is eliminated", "vars(2) clause(1) eliminate(0)", "isForced(1) = false",
            "isForced(-1) = false", "assume(2) = 1", "isForced(2) = false", "assume(-1) = 2", "isForced(1) = true");
        Edges.run("P17 learnt clauses count", "vars(2) clause(1,2) clause(1,-2)", "isForced(1) = false",
            "solve(1) = ?", "isForced(1) = true", "isForced(-1) = false", "isForced(2) = false");
    }

    // ---- promises 18 and 19

    private static void eliminating() {
        Edges.run("P18 in no clause", "vars(12)", "eliminate(0) = 0", "eliminate(11) = 0",
            "eliminate(12) = " + Edges.INDEX, "away() = 100000000001", "lines() = 0");
        Edges.run("P18 all variables", "vars(2) clause(1,2)", "eliminate(0) = 0", "eliminate(1) = 0",
            "away() = 11", "solve(1) = y", "decisions() = 0", "put() = 0", "values() = 10", "isModel() = true");
        Edges.run("P18 no literal of the other sign", "vars(3) clause(1,2) clause(3,1)", "eliminate(0) = 0",
            "constraints() = 0", "proof() = t0 t1 d0 d1");
        Edges.run("P18 both literals of a variable", "vars(2) clause(1,2) clause(-1,-2)", "eliminate(0) = 0",
            "proof() = t0 t1 d0 d1", "modelsByTrying() = 2");
        Edges.run("P18 no literals are left", "vars(1) clause(1) clause(-1)", "eliminate(0) = 1", "sizeOf(2) = 0",
            "literalAt(2,0) = " + Edges.ELEMENT, "literalAt(2,-1) = " + Edges.ELEMENT, "solve(1) = n",
            "put() = 0", "core() = 0", "modelsByTrying() = 0", "isChecked() = true");
        Edges.run("P19 eliminated and brought back", "vars(2) clause(1,2)", "isEliminated(0) = false",
            "eliminate(0) = 0", "isEliminated(0) = true", "isEliminated(1) = false", "assume(1) = 1",
            "isEliminated(0) = false", "dropAssumptions() = 1", "eliminate(0) = 0", "isEliminated(0) = true");
    }

    private static void eliminatingRefused() {
        Edges.run("P18 twice", "vars(2) clause(1,2) eliminate(0)", "eliminate(0) = " + Edges.STATE,
            "eliminate(2) = " + Edges.INDEX, "eliminate(-1) = " + Edges.INDEX, "push() = 1",
            "eliminate(0) = " + Edges.STATE, "eliminate(1) = " + Edges.STATE, "eliminate(2) = " + Edges.INDEX,
            "pop() = 0", "eliminate(1) = 0");
        Edges.run("P18 assumed", "vars(3) assume(1) assume(-2)", "eliminate(0) = " + Edges.SUPPORT,
            "eliminate(1) = " + Edges.SUPPORT, "eliminate(2) = 0", "push() = 1", "eliminate(0) = " + Edges.STATE,
            "pop() = 0", "dropAssumptions() = 2", "eliminate(0) = 0", "eliminate(1) = 0");
        Edges.run("P18 assumed twice", "vars(2) assume(1) assume(-1) assume(2) assume(2)",
            "eliminate(0) = " + Edges.SUPPORT, "eliminate(1) = " + Edges.SUPPORT);
        Edges.run("P18 in two rows", "vars(5) odd(-1,2) bound(5;1,3) even(4,3) odd(4,2)",
            "eliminate(0) = " + Edges.SUPPORT, "eliminate(1) = " + Edges.SUPPORT, "eliminate(2) = " + Edges.SUPPORT,
            "eliminate(3) = " + Edges.SUPPORT, "eliminate(4) = 0");
        Edges.run("P18 in a row", "vars(4) odd(-1,2) bound(5;3) clause(4,1)", "eliminate(0) = " + Edges.SUPPORT,
            "eliminate(1) = " + Edges.SUPPORT, "eliminate(2) = " + Edges.SUPPORT, "eliminate(3) = 0",
            "eliminate(4) = " + Edges.INDEX);
        Edges.run("P18 in a row that holds no more", "vars(2) push() odd(1,2) bound(0;1)",
            "eliminate(0) = " + Edges.STATE, "pop() = 2", "eliminate(0) = 0", "eliminate(1) = 0");
    }

    private static void asManyResolvents() {
        Edges.run("P18 four for four", "vars(5) clause(1,2) clause(1,3) clause(-1,4) clause(-1,5)",
            "eliminate(0) = 4", "held() = 4 5 6 7", "proof() = t0 t1 t2 t3 a4 a5 a6 a7 d0 d1 d2 d3",
            "written(4) = 2 4", "written(5) = 2 5", "written(6) = 3 4", "written(7) = 3 5");
        Edges.run("P18 six for five", "vars(6) clause(1,2) clause(1,3) clause(-1,4) clause(-1,5) clause(-1,6)",
            "eliminate(0) = " + Edges.SUPPORT, "held() = 0 1 2 3 4", "away() = 000000", "clause(6) = 5");
        // of the six pairs that of 1 2 and -1 -2 makes none
        Edges.run("P18 five for five", "vars(6) clause(1,2) clause(1,3) clause(-1,-2) clause(-1,5) clause(-1,6)",
            "eliminate(0) = 5", "held() = 5 6 7 8 9", "written(7) = 3 -2");
        // 7 1 is learnt: it goes with them, but is no clause that is kept aside
        Edges.run("P18 six for five and a learnt one",
            "vars(8) pair(8;1,7) clause(-1,4) clause(-1,5) clause(-1,6) under(-1,-7)", "learnt() = 7 1",
            "eliminate(0) = " + Edges.SUPPORT, "held() = 0 1 2 3 4 5");
        Edges.run("P18 four for four and a learnt one",
            "vars(8) pair(8;1,7) clause(-1,4) clause(-1,5) under(-1,-7)", "eliminate(0) = 4",
            "held() = 5 6 7 8", "clause(1) = 9", "held() = 0 1 2 3 5 6 7 8 9");
        // the two that went aside with 6 do not count for 1
        Edges.run("P18 six for five beside others that are kept aside",
            "vars(7) clause(7,2) clause(7,3) clause(1,2) clause(1,3) clause(-1,4) clause(-1,5) clause(-1,6)"
            + " eliminate(6)", "eliminate(0) = " + Edges.SUPPORT, "held() = 2 3 4 5 6");
    }

    private static void hundredConstraints() {
        String most = "vars(6) clause(1,2) 25*clause(-1,3) clause(-3,4) clause(5,6) clause(-5,6)";
        // 50 told, and 25 resolvents twice: 100, with 26 and then 26 more of them kept aside
        Edges.run("P18 a hundred", most + " 21*clause(6) eliminate(0)", "eliminate(2) = 25", "constraints() = 48",
            "eliminate(4) = " + Edges.SUPPORT, "eliminate(1) = 0", "eliminate(3) = 0", "modelsByTrying() = 10");
        Edges.run("P18 a hundred and one", most + " 21*clause(6) eliminate(0) eliminate(2)",
            "eliminate(4) = " + Edges.SUPPORT);
        Edges.run("P18 ninety-nine, and one more", most + " 20*clause(6) eliminate(0) eliminate(2)",
            "eliminate(4) = 1", "kindOf(99) = r", "written(99) = 6", "constraintAt(45) = 99");
        // 50 told and the 5 6 -5 6 makes: the two that were kept aside and hold again are not two more
        Edges.run("P18 a hundred, some of them brought back", most + " 20*clause(6) eliminate(4) assume(5)"
            + " dropAssumptions() eliminate(0)", "constraints() = 49", "eliminate(2) = 25", "constraints() = 48",
            "eliminate(4) = " + Edges.SUPPORT);
        Edges.run("P18 a hundred beside a learnt one", most + " 19*clause(6) vars(2) pair(8;7) under(-7)"
            + " eliminate(0)", "learnt() = 7", "constraints() = 50", "eliminate(2) = 25",
            "eliminate(4) = " + Edges.SUPPORT);
    }

    // ---- promises 20 to 29

    private static void whatHolds() {
        Edges.run("P20 none holds", FREE, "constraints() = 0", "constraintAt(0) = " + Edges.INDEX);
        Edges.run("P21 by rising numbers", "vars(3) clause(1,2) clause(2,3) clause(1) eliminate(1) clause(2)",
            "constraints() = 4", "constraintAt(0) = 0", "constraintAt(1) = 1", "constraintAt(2) = 2",
            "constraintAt(3) = 3", "constraintAt(4) = " + Edges.INDEX, "proof() = t0 t1 t2 d0 d1 t0 t1 t3");
        Edges.run("P22 each kind", TOLD + " vars(1) odd(6) bound(1;6) solve(9)", "kinds() = ccccxml");
        Edges.run("P22 a resolvent", AWAY, "kindOf(2) = r", "constraintAt(0) = 2", "constraintAt(1) = "
            + Edges.INDEX, "sizeOf(2) = 2", "frameOf(2) = 0", "usesOf(2) = 0", "spreadOf(2) = " + Edges.ELEMENT);
        Edges.run("P26 a learnt clause", MET, "spreadOf(4) = 2", "spreadOf(3) = " + Edges.ELEMENT,
            "spreadOf(5) = " + Edges.INDEX, "usesOf(4) = 0", "usesOf(0) = 0", "usesOf(3) = 1");
        Edges.run("P26 rows are no learnt clauses", "vars(2) odd(1,2) bound(1;1,2)",
            "spreadOf(0) = " + Edges.ELEMENT, "spreadOf(1) = " + Edges.ELEMENT, "spreadOf(2) = " + Edges.INDEX);
        Edges.run("P28 and P29 the first and the last variable", "vars(12)", "activityOf(0) = 0",
            "activityOf(11) = 0", "phaseOf(0) = false", "phaseOf(11) = false", "activityOf(12) = " + Edges.INDEX,
            "phaseOf(12) = " + Edges.INDEX, "activityOf(-1) = " + Edges.INDEX, "phaseOf(-1) = " + Edges.INDEX);
    }

    private static void whatHoldsNoMore() {
        String[] scripts = {"vars(3) clause(1,2) clause(3)", "vars(3) clause(1,2) push() clause(3) pop()",
            "vars(3) clause(1,2) clause(-3) eliminate(2)", "vars(3) clause(1,2)"};
        for (int i = 1; i < scripts.length; i++) {
            Edges.run("P22 to P27, P44 one that holds no more", scripts[i], "kindOf(1) = " + Edges.INDEX,
                "sizeOf(1) = " + Edges.INDEX, "literalAt(1,0) = " + Edges.INDEX,
                "literalAt(1,-1) = " + Edges.INDEX, "literalAt(1,1) = " + Edges.INDEX,
                "frameOf(1) = " + Edges.INDEX, "spreadOf(1) = " + Edges.INDEX, "usesOf(1) = " + Edges.INDEX,
                "writeConstraint(1) = " + Edges.INDEX, "constraintAt(1) = " + Edges.INDEX);
        }
        Edges.run("P22 to P27, P44 one that holds", scripts[0], "kindOf(1) = c", "sizeOf(1) = 1",
            "literalAt(1,0) = 3", "frameOf(1) = 0", "spreadOf(1) = " + Edges.ELEMENT, "usesOf(1) = 0",
            "constraintAt(1) = 1", "writeConstraint(1) = 1");
        Edges.run("P22 to P27, P44 one that holds again", scripts[2] + " assume(3)", "kindOf(1) = c",
            "sizeOf(1) = 1", "literalAt(1,0) = -3", "frameOf(1) = 0", "usesOf(1) = 0", "constraintAt(1) = 1",
            "writeConstraint(1) = 2");
    }

    private static void literalsOfConstraints() {
        Edges.run("P24 of six", "vars(12) clause(-12,1,-11,2,-10,3)", "literalAt(0,0) = -12", "literalAt(0,5) = 3",
            "literalAt(0,6) = " + Edges.ELEMENT, "literalAt(0,-1) = " + Edges.ELEMENT,
            "literalAt(0,2147483647) = " + Edges.ELEMENT, "literalAt(0,-2147483648) = " + Edges.ELEMENT,
            "literalAt(1,0) = " + Edges.INDEX, "literalAt(1,6) = " + Edges.INDEX,
            "literalAt(-1,-1) = " + Edges.INDEX);
        Edges.run("P24 of one", "vars(1) bound(0;-1)", "literalAt(0,0) = -1", "literalAt(0,1) = " + Edges.ELEMENT,
            "sizeOf(0) = 1");
    }

    // ---- promises 30 to 41

    private static void figures() {
        Edges.run("P30 to P35 before a conflict", "vars(2) clause(1,2) solve(1)", "conflicts() = 0",
            "decisions() = 1", "restarts() = 0", "forgotten() = 0", "put() = 1",
            "meanSpread() = " + Edges.ARITHMETIC, "learntShare() = 0.0");
        Edges.run("P30 to P34 go on with each search", "vars(2) clause(1,2) solve(1)", "solve(1) = y",
            "decisions() = 2", "put() = 2", "solve(0) = " + Edges.ARGUMENT, "decisions() = 2", "put() = 2");
        Edges.run("P30 to P34 all of both searches", HARD + " solve(20)", "conflicts() = 20", "restarts() = 5",
            "forgotten() = 11", "put() = 87", "solve(20) = n", "conflicts() = 30", "restarts() = 7",
            "forgotten() = 19", "put() = 141");
        Edges.run("P35 of what is gone too", CUT, "meanSpread() = 2.0", "eliminate(1) = 0", "kinds() = cc",
            "meanSpread() = 2.0", "learntShare() = 0.0", "forgotten() = 0");
    }

    private static void shares() {
        Edges.run("P36 none holds", "vars(2) push() clause(1,2)", "learntShare() = 0.0", "pop() = 1",
            "learntShare() = " + Edges.ARITHMETIC);
        Edges.run("P36 all are kept aside", "vars(2) clause(1,2)", "learntShare() = 0.0", "eliminate(0) = 0",
            "learntShare() = " + Edges.ARITHMETIC, "assume(1) = 1", "learntShare() = 0.0");
        // 2 1 is learnt, and made of the other two again, when these are kept aside
        Edges.run("P36 the lowest number is learnt", "vars(3) clause(1,2,3) clause(1,2,-3) solve(1)",
            "learntShare() = 0.33333334", "eliminate(2) = 1", "kinds() = lr", "learntShare() = 0.5");
        Edges.run("P36 one of three", "vars(2) clause(1,2) clause(1,-2) solve(1)", "learntShare() = 0.33333334",
            "meanSpread() = 1.0");
    }

    private static void lines() {
        Edges.run("P37 to P39 no line", FREE, "lines() = 0", "lineKind(0) = " + Edges.INDEX,
            "lineNumber(0) = " + Edges.INDEX, "isChecked() = true");
        Edges.run("P37 to P39 the first and the last line", "vars(2) push() clause(1,2) pop()", "lines() = 2",
            "lineKind(0) = t", "lineNumber(0) = 0", "lineKind(1) = d", "lineNumber(1) = 0",
            "lineKind(2) = " + Edges.INDEX, "lineNumber(2) = " + Edges.INDEX, "lineKind(-1) = " + Edges.INDEX,
            "lineNumber(-1) = " + Edges.INDEX, "isChecked() = true");
    }

    private static void models() {
        Edges.run("P41 no model", FREE, "isModel() = " + Edges.ELEMENT, "solve(1) = y", "isModel() = true",
            "addVariable() = 3", "isModel() = " + Edges.ELEMENT, "solve(1) = y", "isModel() = true");
        for (String more : new String[] {"clause(1)", "odd(2)", "even(3)", "bound(5;1)"}) {
            Edges.run("P41 a constraint was added", "vars(3) solve(1)", more + " = 0",
                "isModel() = " + Edges.ELEMENT, "valueOf(0) = false", "solve(1) = y", "isModel() = true");
        }
        Edges.run("P41 added and gone again", "vars(3) solve(1)", "push() = 1", "isModel() = true", "clause(1) = 0",
            "pop() = 1", "isModel() = " + Edges.ELEMENT);
        Edges.run("P41 the refused one is not added", "vars(12) solve(1)", "addVariable() = " + Edges.STATE,
            "isModel() = true", "addClause() = " + Edges.STATE, "isModel() = true", "type(1) = 1",
            "addBound(6) = " + Edges.ARGUMENT, "isModel() = true");
    }

    // ---- promises 42 to 45

    private static void trying() {
        Edges.run("P42 and P43 no variable", NEW, "answerByTrying() = y", "modelsByTrying() = 1");
        Edges.run("P42 and P43 twelve variables", "vars(12)", "answerByTrying() = y", "modelsByTrying() = 4096",
            "assume(12) = 1", "assume(-12) = 2", "answerByTrying() = n", "modelsByTrying() = 4096");
        for (int variables = 1; variables <= 12; variables++) {
            Edges.run("P43 all values of all variables", "vars(" + variables + ")",
                "modelsByTrying() = " + (1 << variables), "clause(-" + variables + ") = 0",
                "modelsByTrying() = " + (1 << variables - 1), "answerByTrying() = y", "even(1) = 1",
                "modelsByTrying() = " + (variables == 1 ? 1 : 1 << variables - 2), "assume(" + variables + ") = 1",
                "answerByTrying() = n");
        }
        Edges.run("P43 one model", "vars(12) bound(0;1,2,3,4,5,6) bound(0;7,8,9,10,11,12)",
            "modelsByTrying() = 1", "answerByTrying() = y", "assume(-7) = 1", "answerByTrying() = y",
            "assume(1) = 2", "answerByTrying() = n", "modelsByTrying() = 1");
        Edges.run("P43 the other model", "vars(12) bound(0;-1,-2,-3,-4,-5,-6) bound(0;-7,-8,-9,-10,-11,-12)",
            "modelsByTrying() = 1", "answerByTrying() = y", "solve(1) = y", "values() = 111111111111");
        Edges.run("P42 and P43 no model", "vars(12) odd(12) even(12)", "answerByTrying() = n",
            "modelsByTrying() = 0");
        Edges.run("P42 the last answer does not matter", CUT, "answerByTrying() = y", "answer() = ?");
    }

    private static void texts() {
        Edges.run("P45 empty at first", "vars(2) clause(1)", "textAt(0) = " + Edges.INDEX,
            "textAt(-1) = " + Edges.INDEX, "writeConstraint(1) = " + Edges.INDEX, "textAt(0) = " + Edges.INDEX,
            "writeConstraint(0) = 1", "textAt(0) = 1", "textAt(1) = " + Edges.INDEX);
        Edges.run("P44 a shorter text in place of a longer one", "vars(12) clause(-12,-11,-10) clause(2)",
            "writeConstraint(0) = 11", "textAt(10) = 0", "textAt(11) = " + Edges.INDEX,
            "writeConstraint(2) = " + Edges.INDEX, "textAt(10) = 0", "writeConstraint(1) = 1", "textAt(0) = 2",
            "textAt(1) = " + Edges.INDEX, "textAt(10) = " + Edges.INDEX);
        Edges.run("P44 each form", "vars(12) odd(-1,3) even(12) bound(0;-1,3) bound(5;1,-2,3,-4,5,-6) clause(-7)",
            "written(0) = -1 3 odd", "written(1) = 12 even", "written(2) = -1 3 <=0",
            "written(3) = 1 -2 3 -4 5 -6 <=5", "written(4) = -7", "writeConstraint(3) = 18", "textAt(17) = 5",
            "textAt(18) = " + Edges.INDEX);
        Edges.run("P44 no literals", "vars(1) clause(1) clause(-1) eliminate(0)", "writeConstraint(2) = 1",
            "textAt(0) = -", "textAt(1) = " + Edges.INDEX);
        Edges.run("P45 the text stays", "vars(2) clause(1,-2) writeConstraint(0)", "eliminate(0) = 0",
            "textAt(3) = 2", "writeConstraint(0) = " + Edges.INDEX, "textAt(3) = 2", "solve(1) = y",
            "textAt(2) = -", "textAt(4) = " + Edges.INDEX);
    }
}
