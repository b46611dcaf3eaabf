/**
 * Runs in which several sentences of the document meet; what goes on in each one is told beside its rows. What a row
 * means is told in Edges.
 */
public final class MeetingRuns {
    /** Each of these teaches a clause of its three literals, of the spread 3, from two clauses with 12. */
    private static final String TRIPLES = " teach(12;1,2,3) teach(12;1,4,5) teach(12;1,6,7) teach(12;1,8,9)"
        + " teach(12;2,4,6) teach(12;2,5,7) teach(12;3,4,7) teach(12;3,5,6) teach(12;2,8,10)";

    private MeetingRuns() {
    }

    public static void main(String[] args) {
        learntBelowAFrame();
        learntInFramesBetween();
        forgottenInAFrame();
        eliminatedAgain();
        broughtBackInAFrame();
        learntClausesDoNotComeBack();
        budgetsAndFrames();
        budgetsAndElimination();
        budgetsUnderAnAssumption();
        assumptionsThatExcludeEachOther();
        assumptionsThatBringBack();
        assumptionsAndFrames();
        modelsAndFrames();
        proofOfAll();
        Edges.end("MeetingRuns");
    }

    // ---- frames that are popped between searches with learnt clauses

    /**
     * -2 -1 is learnt in the frame 0 as number 2. Under 3 it puts -2 behind 1, so that -3 2 is false: -3 is learnt,
     * of the frame 1, in which 3 and 4 were told. Behind the pop the same goes with 4, in a new frame 1.
     */
    private static void learntBelowAFrame() {
        Edges.run("what is learnt below stays and is used again", "vars(5) pair(5;-1,-2) under(1,2) push()"
            + " clause(-3,1) clause(-3,2) under(3)", "held() = 0 1 2 3 4 5", "uses() = 1 1 1 1 1 0",
            "frames() = 0 0 0 1 1 1", "learnt() = -2 -1, -3", "put() = 5", "activities() = 105 105 56 0 49",
            "phases() = 10001", "pop() = 3", "isForced(-3) = false", "push() = 1", "clause(-4,1) = 6",
            "clause(-4,2) = 7", "under(4) = 1", "held() = 0 1 2 6 7 8", "uses() = 1 1 2 1 1 0",
            "frames() = 0 0 0 1 1 1", "isForced(-4) = true", "pop() = 3", "held() = 0 1 2",
            "proof() = t0 t1 a2 t3 t4 a5 d3 d4 d5 t6 t7 a8 d6 d7 d8", "isChecked() = true", "put() = 8",
            "activities() = 148 148 49 56 43", "conflicts() = 3", "meanSpread() = 1.3333333333333333");
    }

    private static void learntInFramesBetween() {
        Edges.run("a clause of the frame 1 that is learnt in the frame 2", "vars(6) push() pair(6;-1,-2) push()"
            + " under(1,2)", "frames() = 1 1 1", "pop() = 0", "held() = 0 1 2", "clause(-3,1) = 3",
            "clause(-3,2) = 4", "under(3) = 1", "learnt() = -2 -1, -3", "uses() = 1 1 1 1 1 0",
            "frames() = 1 1 1 1 1 1", "pop() = 6", "held() = ", "isForced(-3) = false",
            "learntShare() = " + Edges.ARITHMETIC, "proof() = t0 t1 a2 t3 t4 a5 d0 d1 d2 d3 d4 d5",
            "isChecked() = true");
        // the same clause is learnt once in each frame: by the frame 2, and behind the pop by the frame 0
        Edges.run("a clause that went with its frame is learnt anew", "vars(4) clause(-1,-2,3) clause(-1,-2,4)"
            + " clause(-1,-2,-4) push() push() clause(-1,-2,-3) under(1,2)", "learnt() = -2 -1",
            "frames() = 0 0 0 2 2", "uses() = 1 0 0 1 0", "pop() = 2", "under(1,2) = 2", "learnt() = -2 -1",
            "frames() = 0 0 0 0", "uses() = 1 1 1 0", "held() = 0 1 2 5", "pop() = 0", "held() = 0 1 2 5",
            "proof() = t0 t1 t2 t3 a4 d3 d4 a5");
    }

    /** The ninth clause that is learnt in the frame 1 makes the number 2 go: 18 told and 8 learnt are left. */
    private static void forgottenInAFrame() {
        Edges.run("what was forgotten does not go again with its frame", "vars(12) push()" + TRIPLES,
            "forgotten() = 1", "constraints() = 26", "learntShare() = 0.30769232", "pop() = 26",
            "constraints() = 0", "forgotten() = 1", "learntShare() = " + Edges.ARITHMETIC, "meanSpread() = 3.0",
            "lines() = 54", "lineKind(27) = d", "lineNumber(27) = 2", "lineNumber(28) = 0", "lineNumber(29) = 1",
            "lineNumber(30) = 3", "lineNumber(53) = 26", "isChecked() = true");
        // 4 is learnt in the frame 1 as the ninth one that holds, so that the number 5, of the frame 0, goes for good
        Edges.run("a clause of a frame makes one below go", "vars(12)" + TRIPLES + " push() clause(4,5) clause(4,-5)",
            "forgotten() = 1", "kindOf(5) = l", "under(-4) = 1", "forgotten() = 2", "kindOf(5) = " + Edges.INDEX,
            "frameOf(29) = 1", "pop() = 3", "kindOf(5) = " + Edges.INDEX, "constraints() = 25");
    }

    // ---- variables that are eliminated, brought back and eliminated again

    /**
     * 2 3 is the resolvent 3, and 3 4 of it the number 4; -3 and 4 is the model, which needs 2. Told 1 -4, both come
     * back, and 6 and 7, and then 8 and 9, are made of more clauses than before. With the phases 3 is decided false,
     * 4 put, and 3 learnt as number 10; 1 is learnt under -1 as number 11, from 5, 2 and 0.
     */
    private static void eliminatedAgain() {
        String script = "vars(4) clause(1,2) clause(-1,3) clause(-2,4)";
        Edges.run("by a constraint, and by an assumption", script, "eliminate(0) = 1", "eliminate(1) = 1",
            "held() = 4", "solve(9) = y", "values() = 0101", "isModel() = true", "clause(1,-4) = 5",
            "away() = 0000", "proof() = t0 t1 t2 a3 d0 d1 a4 d2 d3 t0 t1 t2 t3 t5",
            "isModel() = " + Edges.ELEMENT, "values() = 0101", "eliminate(0) = 2", "eliminate(1) = 2",
            "held() = 4 7 8 9", "kinds() = rrrr", "solve(9) = y", "values() = 1011", "isModel() = true",
            "modelsByTrying() = 3", "assume(-1) = 1", "away() = 0000", "solve(9) = n", "core() = 1",
            "uses() = 1 0 1 0 1 1 0 1 0 0 0 0", "eliminate(0) = " + Edges.SUPPORT, "dropAssumptions() = 1",
            "eliminate(3) = " + Edges.SUPPORT, "held() = 0 1 2 3 4 5 6 7 8 9 10 11", "isChecked() = true");
        Edges.run("its proof", script + " eliminate(0) eliminate(1) solve(9) clause(1,-4) eliminate(0) eliminate(1)"
            + " solve(9) assume(-1) solve(9)", "proof() = t0 t1 t2 a3 d0 d1 a4 d2 d3 t0 t1 t2 t3 t5 a6 a7 d0 d1 d5"
            + " a8 a9 d2 d3 d6 a10 t0 t1 t5 t2 t3 t6 a11", "kinds() = cccrrcrrrrll");
    }

    /** 1 is learnt from the clause of the frame 1 and the number 0, which came back, but is of the frame 0 still. */
    private static void broughtBackInAFrame() {
        Edges.run("what came back stays behind the pop", "vars(5) clause(1,2) clause(-1,3) eliminate(0) push()",
            "clause(1,-2) = 3", "away() = 00000", "under(-1) = 1", "learnt() = 1", "frames() = 0 0 0 1 1",
            "uses() = 1 0 0 1 0", "pop() = 2", "away() = 00000", "held() = 0 1 2", "eliminate(0) = 1",
            "written(5) = 2 3", "held() = 2 5", "proof() = t0 t1 a2 d0 d1 t0 t1 t3 a4 d3 d4 a5 d0 d1",
            "isChecked() = true");
    }

    /** 2 1 is learnt as number 2, and made again as the resolvent 3; both go with 1, and the number 3 comes back. */
    private static void learntClausesDoNotComeBack() {
        Edges.run("only what was kept aside comes back", "vars(3) pair(3;1,2) under(-1,-2)", "eliminate(2) = 1",
            "held() = 2 3", "kinds() = lr", "eliminate(0) = 0", "held() = ", "assume(1) = 1", "held() = 3",
            "away() = 001", "assume(3) = 2", "held() = 0 1 3", "kinds() = ccr",
            "proof() = t0 t1 a2 a3 d0 d1 d2 d3 t3 t0 t1", "solve(9) = y", "values() = 111", "dropAssumptions() = 2",
            "eliminate(1) = 0", "solve(9) = y", "values() = 101", "isModel() = true", "isChecked() = true",
            "proof() = t0 t1 a2 a3 d0 d1 d2 d3 t3 t0 t1 d0 d1 d3");
    }

    // ---- searches that end by their budgets, and what goes on behind them

    /**
     * -1 and -2 are decided, and 2 1 is learnt. In the frame 1 then -1 is decided and puts 2, 3 comes with its phase,
     * and 5 4 is learnt in the same way, which has nothing to do with the frame; and so on.
     */
    private static void budgetsAndFrames() {
        Edges.run("frames between the searches", "vars(12) pair(3;1,2) pair(6;4,5) pair(9;7,8) pair(12;10,11)",
            "solve(1) = ?", "learnt() = 2 1", "phases() = 001000000000", "decisions() = 2", "put() = 1",
            "push() = 1", "clause(-2,-1) = 9", "solve(1) = ?", "learnt() = 2 1, 5 4", "decisions() = 6",
            "put() = 3", "phases() = 011001000000", "frameOf(10) = 0", "pop() = 1", "solve(1) = ?",
            "answer() = ?", "learnt() = 2 1, 5 4, 8 7", "solve(200) = y", "learnt() = 2 1, 5 4, 8 7, 11 10",
            "values() = 011011011011", "conflicts() = 4", "restarts() = 0", "isModel() = true",
            "proof() = t0 t1 t2 t3 t4 t5 t6 t7 a8 t9 a10 d9 a11 a12", "isChecked() = true");
    }

    /**
     * 2 1 goes with 2, so that the next search decides -1, 3 with its phase, -4 and -5, learns 5 4, and goes on with
     * 6, -7 and -8; then 1 2 -3, which was kept aside, needs 2. When 2 is assumed, -4 puts 5, and 6, -1, 3, -7 and
     * -8 are decided.
     */
    private static void budgetsAndElimination() {
        Edges.run("what was learnt goes between the searches", "vars(8) pair(3;1,2) pair(6;4,5)", "solve(1) = ?",
            "learnt() = 2 1", "activities() = 56 56 56 0 0 0 0 0", "eliminate(1) = 0",
            "proof() = t0 t1 t2 t3 a4 d0 d1 d4", "valueOf(0) = " + Edges.ELEMENT, "solve(200) = y",
            "learnt() = 5 4", "conflicts() = 2", "decisions() = 9", "activities() = 49 49 49 56 56 56 0 0",
            "values() = 01101100", "phases() = 00101100", "isModel() = true", "assume(2) = 1",
            "held() = 0 1 2 3 5", "isModel() = true", "solve(1) = y", "values() = 01101100", "decisions() = 15");
    }

    /** Under 1, -2 is decided, and 2 -1 learnt; with it 2 and 3 are put, and -1 learnt; so 1 is false at once. */
    private static void budgetsUnderAnAssumption() {
        String script = "vars(4) pair(3;-1,-2) pair(4;-1,2) assume(1)";
        Edges.run("one conflict a search", script, "solve(1) = ?", "learnt() = 2 -1", "core() = " + Edges.ELEMENT,
            "solve(1) = ?", "learnt() = 2 -1, -1", "uses() = 1 1 1 1 1 0", "solve(1) = n", "core() = 1",
            "conflicts() = 2", "dropAssumptions() = 1", "assume(-1) = 1", "core() = 1", "solve(1) = y",
            "values() = 0111", "activities() = 105 105 56 49", "core() = " + Edges.ELEMENT);
        Edges.run("all in one search", script, "solve(3) = n", "learnt() = 2 -1, -1", "uses() = 1 1 1 1 1 0",
            "core() = 1", "conflicts() = 2", "activities() = 105 105 56 49");
        Edges.run("just as many conflicts as the budget", script, "solve(2) = ?", "learnt() = 2 -1, -1",
            "solve(1) = n", "conflicts() = 2");
    }

    // ---- assumptions that exclude each other

    private static void assumptionsThatExcludeEachOther() {
        // 3 alone puts nothing; behind 4 the bound row puts -1, and the parity row -2
        Edges.run("by two rows", "vars(4) odd(1,2,3) bound(1;1,2,4) assume(3) assume(4) assume(1) assume(2)",
            "solve(9) = n", "core() = 12", "put() = 2", "conflicts() = 0", "phases() = 0011",
            "answerByTrying() = n", "modelsByTrying() = 4");
        // without -1 the others exclude each other still, and so do 1 and 2 without 3; each of these is needed
        Edges.run("two pairs", "vars(3) clause(-1,-2) clause(-3,1) assume(-1) assume(3) assume(1) assume(2)",
            "solve(9) = n", "core() = 12", "answerByTrying() = n", "dropAssumptions() = 4", "assume(-1) = 1",
            "assume(3) = 2", "solve(9) = n", "core() = 3");
        Edges.run("by a clause that is kept aside", "vars(4) clause(1,2) clause(-1,3) eliminate(0) assume(-2)"
            + " assume(4) assume(-3)", "solve(9) = n", "core() = 5", "conflicts() = 0", "answerByTrying() = n",
            "away() = 1000", "modelsByTrying() = 8");
    }

    /** The first assumption brings 1 back; behind 1 it puts -2. Without 1 the other two have a model. */
    private static void assumptionsThatBringBack() {
        Edges.run("one that was eliminated", "vars(3) clause(-1,-2) eliminate(0)", "assume(1) = 1",
            "isEliminated(0) = false", "assume(2) = 2", "solve(9) = n", "core() = 3", "conflicts() = 0",
            "put() = 1", "assume(-1) = 3", "solve(9) = n", "core() = 5", "answerByTrying() = n",
            "modelsByTrying() = 6", "eliminate(0) = " + Edges.SUPPORT, "eliminate(2) = 0", "dropAssumptions() = 3",
            "eliminate(0) = 0", "proof() = t0 d0 t0 d0", "core() = 5", "answerByTrying() = y", "solve(1) = y",
            "core() = " + Edges.ELEMENT, "isModel() = true");
        Edges.run("both literals of one that was eliminated", "vars(2) clause(1,2) clause(-1,2) eliminate(0)"
            + " assume(-1) assume(1)", "held() = 0 1 2", "solve(1) = n", "core() = 3", "put() = 1",
            "phases() = 01", "dropAssumptions() = 2", "eliminate(0) = 1", "written(3) = 2",
            "proof() = t0 t1 a2 d0 d1 t0 t1 a3 d0 d1", "solve(1) = y", "values() = 01");
    }

    private static void assumptionsAndFrames() {
        Edges.run("what a frame excludes", "vars(2) clause(1,2) push() clause(-1) assume(1)", "solve(9) = n",
            "core() = 1", "pop() = 1", "core() = 1", "answer() = n", "answerByTrying() = y", "solve(9) = y",
            "values() = 11");
        // behind -1 the frame 1 has no model at all, so that no assumption is needed
        Edges.run("what a frame excludes without them", "vars(2) clause(1,2) assume(-1) assume(2) push() clause(-2)",
            "solve(9) = n", "core() = 2", "push() = 2", "clause(-1) = 2", "solve(9) = n", "core() = 0",
            "pop() = 1", "pop() = 1", "solve(9) = y", "values() = 01");
    }

    private static void modelsAndFrames() {
        Edges.run("a model stays behind the pop", "vars(3) clause(1,2) push() clause(-1) clause(-2,3)", "solve(9) = y",
            "values() = 011", "isModel() = true", "pop() = 2", "isModel() = true", "values() = 011",
            "eliminate(1) = 0", "isModel() = true", "push() = 1", "isModel() = true", "assume(-2) = 1",
            "held() = 0", "isModel() = true", "clause(3) = 3", "isModel() = " + Edges.ELEMENT, "pop() = 1",
            "isModel() = " + Edges.ELEMENT, "values() = 011", "addVariable() = 3",
            "valueOf(3) = " + Edges.ELEMENT, "solve(9) = y", "isModel() = true");
        Edges.run("a resolvent was added", "vars(3) clause(1,2) clause(-1,3) solve(9)", "isModel() = true",
            "eliminate(0) = 1", "isModel() = " + Edges.ELEMENT, "values() = 010", "solve(9) = y",
            "isModel() = true");
    }

    // ---- a proof with lines of all these

    /**
     * Nine triples make the number 3 go, and 4, learnt in the frame 1, the number 6. Of 9 10 and the clauses 10 and
     * 11 with -9 the resolvents 31 and 32 are made, of these and the numbers 25 and 26, with -10, 33 and 34; the
     * learnt clauses 12 and 27 go for good. Then 9 brings back what has 10 in it.
     */
    private static void proofOfAll() {
        String script = "vars(12) clause(9,10)" + TRIPLES + " push() clause(4,5) clause(4,-5) under(-4) pop()";
        Edges.run("the resolvents", script, "eliminate(8) = 2", "written(31) = 10 -1 -8 12",
            "written(32) = 10 -1 -8 -12", "eliminate(9) = 2", "written(33) = -1 -8 12 -2",
            "written(34) = -1 -8 -12 -2");
        String gone = script + " eliminate(8) eliminate(9)";
        Edges.run("what holds", gone, "held() = 1 2 4 5 7 8 9 13 14 15 16 17 18 19 20 21 22 23 24 33 34",
            "away() = 000000001100", "assume(9) = 1", "away() = 000000000000", "held() = 0 1 2 4 5 7 8 9 10 11 13 14"
            + " 15 16 17 18 19 20 21 22 23 24 25 26 31 32 33 34", "forgotten() = 2", "conflicts() = 10");
        Edges.run("all lines", gone + " assume(9)", "proof() = t0 t1 t2 a3 t4 t5 a6 t7 t8 a9 t10 t11 a12 t13 t14 a15"
            + " t16 t17 a18 t19 t20 a21 t22 t23 a24 t25 t26 a27 d3 t28 t29 a30 d6 d28 d29 d30 a31 a32 d0 d10 d11"
            + " d12 a33 a34 d25 d26 d27 d31 d32 t0 t10 t11 t25 t26 t31 t32", "isChecked() = true");
        Edges.run("all lines, looked at in between", gone, "isChecked() = true", "assume(9) = 1",
            "isChecked() = true", "clause(-9,-10) = 35", "lines() = 57", "lineKind(56) = t", "lineNumber(56) = 35",
            "solve(200) = y", "valueOf(8) = true", "valueOf(9) = false", "isModel() = true", "isChecked() = true");
    }
}
