/**
 * The edges that the document's Terms name, section by section; each run is worked out by hand beside its rows.
 * What a row means is told in Edges.
 */
public final class TermEdgeRuns {
    /**
     * Eight triples of which no two share more than one variable: each teaches a clause of its three literals, of
     * the spread 3, as the third of its row of three numbers, and no learnt clause puts a literal meanwhile.
     */
    private static final String[] TRIPLES = {"teach(12;1,2,3)", "teach(12;1,4,5)", "teach(12;1,6,7)",
        "teach(12;1,8,9)", "teach(12;2,4,6)", "teach(12;2,5,7)", "teach(12;3,4,7)", "teach(12;3,5,6)"};
    private static final String EIGHT = "vars(12) " + String.join(" ", TRIPLES);
    /** Seven pairs of spread 2 and an eighth one. */
    private static final String EIGHT_PAIRS = "vars(12) teach(12;1,2) teach(12;1,3) teach(12;1,4) teach(12;1,5)"
        + " teach(12;1,6) teach(12;1,7) teach(12;1,8) teach(12;2,3)";

    private TermEdgeRuns() {
    }

    public static void main(String[] args) {
        boundsOfAllSizes();
        rowsOfAllSizes();
        numbersOfConstraints();
        falseConstraints();
        forcedLiterals();
        orderOnTheTrail();
        nothingToDecide();
        assumptionsInTurn();
        assumptionsAndConflicts();
        decisionsByActivity();
        reasonsOfRows();
        learntOfOneLiteral();
        severalThatAreFalse();
        oneOfThePresentLevel();
        literalsOfLevelZero();
        leftOutAtOnce();
        orderAndSpread();
        levelsThatAreLeft();
        activities();
        framesOfLearnt();
        restartsAtThree();
        restartsOfThisSearch();
        restartsSinceTheLast();
        restartsAgainAndAgain();
        forgottenBehindTheRestart();
        eightAreKept();
        nineAreTooMany();
        whichIsForgotten();
        putsALiteral();
        spreadOfTwo();
        behindTheBudget();
        goneOtherwise();
        coresOfRepeated();
        bringingBackSix();
        bringingBackTwelve();
        modelsOfEliminated();
        linesOfTheProof();
        Edges.end("TermEdgeRuns");
    }

    // ---- constraints

    private static int choose(int of, int some) {
        return some == 0 ? 1 : choose(of, some - 1) * (of - some + 1) / some;
    }

    private static String firstOnes(int size) {
        StringBuilder text = new StringBuilder("1");
        for (int i = 2; i <= size; i++) {
            text.append(',').append(i);
        }
        return text.toString();
    }

    private static void boundsOfAllSizes() {
        for (int size = 1; size <= 6; size++) {
            for (int most = 0; most <= 5; most++) {
                int models = 0;
                for (int some = 0; some <= most && some <= size; some++) {
                    models += choose(size, some);
                }
                Edges.run("a bound row, at most so many as told", "vars(6) bound(" + most + ";" + firstOnes(size)
                    + ")", "modelsByTrying() = " + (models << 6 - size), "sizeOf(0) = " + size,
                    "isForced(-1) = " + (most == 0), "solve(1) = y", "put() = " + (most == 0 ? size : 0));
            }
        }
    }

    private static void rowsOfAllSizes() {
        for (int size = 1; size <= 6; size++) {
            String ones = firstOnes(size);
            int others = 1 << 6 - size;
            Edges.run("a clause needs one true literal", "vars(6) clause(" + ones + ")",
                "modelsByTrying() = " + ((1 << size) - 1) * others, "isForced(1) = " + (size == 1));
            Edges.run("a parity row, odd", "vars(6) odd(" + ones + ")", "modelsByTrying() = 32",
                "isForced(1) = " + (size == 1), "solve(1) = y", "put() = 1", "decisions() = 5");
            Edges.run("a parity row, even", "vars(6) even(" + ones + ")", "modelsByTrying() = 32",
                "isForced(-1) = " + (size == 1), "solve(1) = y", "values() = 000000");
        }
    }

    private static void numbersOfConstraints() {
        Edges.run("told, learnt, resolvents in the order in which they come",
            "vars(4) clause(1,2) clause(1,-2) solve(1) clause(-3,4) clause(3,2) eliminate(2) odd(4)",
            "kinds() = cclrx", "held() = 0 1 2 5 6", "proof() = t0 t1 a2 t3 t4 a5 d3 d4 t6");
        Edges.run("the numbers of what went are not given again", "vars(1) push() clause(1) pop()",
            "clause(1) = 1", "kindOf(0) = " + Edges.INDEX, "kindOf(1) = c");
    }

    // ---- the trail

    private static void falseConstraints() {
        Edges.run("one true literal more than told", "vars(3) bound(1;1,-2,3) clause(1)", "isForced(2) = true",
            "isForced(-3) = true", "isForced(3) = false", "clause(-2) = 2", "isForced(3) = true",
            "solve(1) = n", "put() = 2");
        Edges.run("as many as told", "vars(2) bound(2;1,2) clause(1) clause(2)", "isForced(1) = true",
            "isForced(-1) = false", "solve(1) = y");
        Edges.run("a parity row is false behind its last variable alone", "vars(2) odd(1,2) clause(1) clause(2)",
            "isForced(-1) = true", "solve(1) = n", "put() = 2");
        Edges.run("a clause without literals is false at once, ahead of all that is forced",
            "vars(2) clause(2) clause(1) clause(-1) eliminate(0)", "solve(1) = n", "put() = 0", "phases() = 00");
        Edges.run("nothing is put behind a false constraint", "vars(2) clause(1) clause(-1) clause(2)",
            "solve(1) = n", "put() = 1", "phases() = 10");
    }

    private static void forcedLiterals() {
        Edges.run("a clause forces its last literal", "vars(3) clause(1,-2,3) clause(-1)", "isForced(-2) = false",
            "isForced(3) = false", "clause(-3) = 2", "isForced(-2) = true", "isForced(2) = false");
        Edges.run("a parity row forces its last literal", "vars(3) odd(1,-2,3) clause(1)", "isForced(2) = false",
            "isForced(-2) = false", "clause(-3) = 2", "isForced(2) = true", "isForced(-2) = false");
        Edges.run("an even one too", "vars(3) even(1,-2,3) clause(1) clause(-3)", "isForced(-2) = true",
            "isForced(2) = false");
        Edges.run("a bound row with four of six", "vars(6) bound(5;1,2,3,4,5,6) clause(1) clause(2) clause(3)"
            + " clause(4)", "isForced(-5) = false", "isForced(-6) = false", "clause(5) = 5", "isForced(-6) = true",
            "isForced(6) = false");
        Edges.run("a bound row with room for all", "vars(2) bound(5;1,2) clause(1)", "isForced(-2) = false",
            "isForced(2) = false");
        Edges.run("a bound row without room", "vars(2) bound(0;1,-2)", "isForced(-1) = true", "isForced(2) = true",
            "solve(1) = y", "put() = 2", "decisions() = 0", "values() = 01");
    }

    private static void orderOnTheTrail() {
        // -3 is put first, then 1, though 3 -1 forces -1 then: it has a greater number, and is false behind that
        Edges.run("the first of those that it forces, in its order", "vars(3) bound(0;3,-1,2) clause(3,-1)",
            "solve(1) = n", "put() = 2", "phases() = 100");
        // the lowest number puts 1, so that 1 is false with -1; 2 is not put any more
        Edges.run("the lowest number that forces", "vars(2) clause(1) clause(-1) clause(2)", "solve(1) = n",
            "put() = 1");
        Edges.run("the lowest number that forces, again behind each literal",
            "vars(3) clause(-1,2) clause(1) clause(3) clause(-2)", "solve(1) = n", "put() = 2",
            "phases() = 110");
        // 0 comes back ahead of 2, and forces 2 as soon as -1 is put; 3 -2 is false before 4 is put
        Edges.run("a constraint that holds again has its number",
            "vars(4) clause(1,2) eliminate(0) clause(-1) clause(-2) clause(4)", "held() = 0 1 2 3",
            "solve(1) = n", "put() = 2", "phases() = 0100");
    }

    // ---- a search

    private static void nothingToDecide() {
        Edges.run("no variable", "", "solve(1) = y", "decisions() = 0");
        Edges.run("all are put", "vars(2) clause(1) clause(-2)", "solve(1) = y", "decisions() = 0", "put() = 2",
            "values() = 10");
        Edges.run("all are eliminated", "vars(2) eliminate(0) eliminate(1)", "solve(1) = y", "decisions() = 0",
            "values() = 00", "phases() = 00");
        Edges.run("all are assumed", "vars(2) assume(2) assume(-1)", "solve(1) = y", "decisions() = 0",
            "put() = 0", "values() = 01", "phases() = 01");
        Edges.run("one is left", "vars(2) assume(2)", "solve(1) = y", "decisions() = 1", "values() = 01");
    }

    private static void assumptionsInTurn() {
        Edges.run("one that is true is not put again", "vars(2) clause(1) assume(1) assume(1) assume(2) assume(2)",
            "solve(1) = y", "put() = 1", "decisions() = 0");
        Edges.run("one that is false at the level 0", "vars(2) clause(-1) assume(1) assume(2)", "solve(1) = n",
            "put() = 1", "core() = 1", "phases() = 00");
        // at the level 1 the second one is looked at; 2 is not put any more
        Edges.run("one that is false at its level", "vars(3) clause(-1,-3) assume(1) assume(3) assume(2)",
            "solve(1) = n", "put() = 1", "core() = 3", "phases() = 100", "conflicts() = 0");
        Edges.run("both literals of a variable", "vars(1) assume(-1) assume(1)", "solve(1) = n", "put() = 0",
            "core() = 3");
        Edges.run("six, and none is false", "vars(7) assume(1) assume(2) assume(3) assume(-4) assume(5) assume(6)",
            "solve(1) = y", "values() = 1110110", "decisions() = 1");
        Edges.run("six, and the last one is false",
            "vars(7) assume(1) assume(2) assume(3) assume(4) assume(5) assume(-1)", "solve(1) = n",
            "core() = 33", "phases() = 1111100");
    }

    private static void assumptionsAndConflicts() {
        // 3 is put and -1 -2 -3 is false; -2 -1 is learnt, and puts -2 at the level 1, where 2 is the next one
        Edges.run("a conflict, and an assumption is false then", "vars(3) pair(3;-1,-2) assume(1) assume(2)",
            "solve(2) = n", "conflicts() = 1", "learnt() = -2 -1", "core() = 3", "put() = 2");
        Edges.run("the budget is used up ahead of that", "vars(3) pair(3;-1,-2) assume(1) assume(2)",
            "solve(1) = ?", "conflicts() = 1", "put() = 1", "solve(1) = n", "conflicts() = 1", "put() = 2");
        Edges.run("a conflict at the level 0 ahead of all assumptions", "vars(2) clause(1) clause(-1) assume(2)",
            "solve(1) = n", "core() = 0", "conflicts() = 0", "phases() = 10");
        Edges.run("a conflict behind the last assumption", "vars(4) pair(4;-1,2,3) assume(1)", "solve(9) = y",
            "conflicts() = 1", "learnt() = 3 2 -1", "decisions() = 3", "values() = 1011");
    }

    private static void decisionsByActivity() {
        // -1 to -5 are decided, 6 put, and 5 4 learnt; behind it 4, 5 and 6 have 56 of activity
        String script = "vars(6) pair(6;4,5) solve(9)";
        Edges.run("of none that is active the lowest-numbered one", script, "values() = 000011",
            "decisions() = 6", "activities() = 0 0 0 56 56 56", "learnt() = 5 4", "put() = 2");
        // -4 is decided first, puts 5 and 1; then 6, with its phase, and -2 and -3
        Edges.run("the most active one, of several the lowest-numbered one", script + " clause(1,4)",
            "solve(9) = y", "values() = 100011", "decisions() = 10", "put() = 4");
        Edges.run("those that are eliminated are not decided", script + " eliminate(3)", "solve(9) = y",
            "decisions() = 11", "phases() = 000011");
    }

    // ---- reasons and learning

    private static void reasonsOfRows() {
        // 1 puts -3 by the row and this 2, so that the row is false: -1 -2; 2 goes for 3, this for -1 alone
        Edges.run("a bound row: what was true ahead of it", "vars(3) clause(3,2) bound(1;3,1,2) assume(1)",
            "solve(9) = n", "learnt() = -1", "uses() = 1 1 0", "spreads() = - - 1");
        // with -4 ahead of 1 it is the same: what is false is not in the clause of a bound row
        Edges.run("a bound row: nothing that was false", "vars(4) clause(3,2) bound(1;3,1,2,4) assume(-4) assume(1)",
            "solve(9) = n", "learnt() = -1", "uses() = 1 1 0", "spreads() = - - 1",
            "activities() = 56 56 56 0", "core() = 2", "put() = 3");
        // -1 and -2 put -3 by the row, this puts 4: 3 2 -4; 4 goes for 3 2, and 3 for 1 2, of which 1 is false
        Edges.run("a parity row: the false literal of each variable",
            "vars(4) odd(-1,2,3) pair(4;3,2) assume(-1) assume(-2)", "solve(9) = n", "learnt() = 2 1",
            "uses() = 1 1 1 0", "activities() = 56 56 56 56", "core() = 3");
        // 1 puts 2 and 3, ahead of the row, of which two literals are true then: -1 -2 -3
        Edges.run("a false parity row: the false literal of each variable",
            "vars(3) clause(-1,2) clause(-1,3) odd(1,-2,3) assume(1)", "solve(9) = n", "learnt() = -1",
            "uses() = 1 1 1 0", "activities() = 56 56 56", "put() = 3");
    }

    private static void learntOfOneLiteral() {
        Edges.run("a learnt clause of one literal", "vars(2) clause(1,2) clause(1,-2)", "solve(9) = y",
            "learnt() = 1", "spreadOf(2) = 1", "sizeOf(2) = 1", "values() = 11", "decisions() = 2", "put() = 2",
            "conflicts() = 1", "activities() = 56 56", "uses() = 1 1 0", "isForced(1) = true",
            "meanSpread() = 1.0", "restarts() = 0");
        Edges.run("behind several levels", "vars(5) clause(4,5) clause(4,-5)", "solve(9) = y", "learnt() = 4",
            "spreadOf(2) = 1", "decisions() = 8", "put() = 2", "values() = 00011");
    }

    private static void severalThatAreFalse() {
        // -1 puts 2 by the number 0, and all the others are false then
        Edges.run("of the same clauses the one with the lowest number",
            "vars(2) clause(1,2) clause(1,-2) clause(-2,1) clause(1,-2)", "solve(9) = y", "learnt() = 1",
            "uses() = 1 1 0 0 0", "conflicts() = 1");
        Edges.run("the parity row has the lowest number",
            "vars(2) clause(-1,2) odd(1,2) bound(1;1,2) clause(-1,-2) assume(1)", "solve(9) = n", "learnt() = -1",
            "uses() = 1 1 0 0 0");
        Edges.run("the bound row has the lowest number",
            "vars(2) clause(-1,2) bound(1;1,2) clause(-1,-2) odd(1,2) assume(1)", "solve(9) = n", "learnt() = -1",
            "uses() = 1 1 0 0 0");
        // the frame 0 has the lowest number, though the conflict of the frame 1 would be one as well
        Edges.run("the frame of that one", "vars(2) clause(-1,2) clause(-1,-2) push() clause(-2,-1) under(1)",
            "frames() = 0 0 1 0", "pop() = 1", "learnt() = -1");
        // 1 -2 3 comes back ahead of 1 -2
        Edges.run("one that holds again has its number", "vars(3) clause(1,2) clause(1,-2,3) clause(1,-2) eliminate(2)"
            + " assume(-3) assume(-1)", "solve(9) = n", "learnt() = 1 3", "uses() = 1 1 0 0", "put() = 2",
            "core() = 2");
    }

    private static void oneOfThePresentLevel() {
        // -1 puts 2, 3 and 4; -3 -4 goes on to -2 -3 and -2, and no more to the clause of 1 2, which put 2
        Edges.run("no more than one literal of the present level", "vars(4) clause(1,2) clause(-2,3) clause(-2,4)"
            + " clause(-3,-4)", "solve(9) = y", "learnt() = -2", "uses() = 0 1 1 1 0", "put() = 6",
            "decisions() = 2", "values() = 1010", "activities() = 0 56 56 56");
        // -2 puts 1 and 3; -1 -3 goes on to 2 -1, and this to 2
        Edges.run("the first variable was put by a constraint", "vars(3) clause(1,2) clause(2,3) clause(-1,-3)"
            + " assume(-2)", "solve(9) = n", "learnt() = 2", "uses() = 1 1 1 0", "core() = 1", "put() = 3");
        Edges.run("the last one was", "vars(12) clause(12,2) clause(2,3) clause(-12,-3) assume(-2)",
            "solve(9) = n", "learnt() = 2", "uses() = 1 1 1 0", "core() = 1", "put() = 3");
        Edges.run("the first variable brings in the others of the clause that put it",
            "vars(4) clause(1,2,4) clause(2,3) clause(-1,-3) assume(-4) assume(-2)", "solve(9) = n",
            "learnt() = 2 4", "uses() = 1 1 1 0", "spreadOf(3) = 2", "activities() = 56 56 56 56");
        Edges.run("so does the last one", "vars(12) clause(12,2,4) clause(2,3) clause(-12,-3) assume(-4) assume(-2)",
            "solve(9) = n", "learnt() = 2 4", "uses() = 1 1 1 0", "spreadOf(3) = 2");
    }

    private static void literalsOfLevelZero() {
        Edges.run("literals of the level 0 are not in the clause",
            "vars(3) clause(-3,1,2) clause(1,-2,-3) clause(3)", "solve(9) = y", "learnt() = 1",
            "activities() = 56 56 0", "uses() = 1 1 0 0", "spreadOf(3) = 1");
        Edges.run("the same literal of a higher level is", "vars(3) clause(-3,1,2) clause(1,-2,-3) assume(3)",
            "solve(9) = y", "learnt() = 1 -3", "activities() = 56 56 56", "spreadOf(2) = 2");
    }

    private static void leftOutAtOnce() {
        // 2 and 3 are put behind 1; -2 is left out by -1 2, and -3 by -2 3, as -2 was in the clause
        Edges.run("all at once", "vars(5) clause(-1,2) clause(-2,3) pair(5;-1,-2,-3,-4) assume(1) assume(4)",
            "solve(9) = n", "learnt() = -4 -1", "spreadOf(4) = 2", "uses() = 0 0 1 1 0",
            "activities() = 56 56 56 56 56");
        Edges.run("the first variable", "vars(5) clause(-2,1) pair(5;-1,-2,-4) assume(2) assume(4)", "solve(9) = n",
            "learnt() = -4 -2");
        Edges.run("the last variable", "vars(12) clause(-2,12) pair(5;-12,-2,-4) assume(2) assume(4)",
            "solve(9) = n", "learnt() = -4 -2");
        Edges.run("one that is not in the clause is enough to stay",
            "vars(6) clause(-1,-6,2) pair(5;-1,-2,-4) assume(1) assume(6) assume(4)", "solve(9) = n",
            "learnt() = -4 -2 -1", "spreadOf(3) = 3");
        Edges.run("also for the first variable",
            "vars(6) clause(-2,-6,1) pair(5;-1,-2,-4) assume(2) assume(6) assume(4)", "solve(9) = n",
            "learnt() = -4 -1 -2", "spreadOf(3) = 3");
        Edges.run("one that was put at the level 0 does not matter",
            "vars(6) clause(-1,-6,2) pair(5;-1,-2,-4) clause(6) assume(1) assume(4)", "solve(9) = n",
            "learnt() = -4 -1", "spreadOf(4) = 2");
        Edges.run("what no constraint put stays", "vars(5) clause(-1,2) pair(5;-1,-2,-4) assume(1) assume(2)"
            + " assume(4)", "solve(9) = n", "learnt() = -4 -1");
        Edges.run("what no constraint put stays", "vars(5) clause(-1,2) pair(5;-1,-2,-4) assume(2) assume(1)"
            + " assume(4)", "solve(9) = n", "learnt() = -4 -1 -2", "spreadOf(3) = 3");
    }

    private static void orderAndSpread() {
        Edges.run("the present level first, then those put later first",
            "vars(5) pair(5;-2,-1,-3) assume(3) assume(1) assume(2)", "solve(9) = n", "learnt() = -2 -1 -3",
            "spreadOf(2) = 3");
        // 1 puts 2 and then 3, both at the level 1
        Edges.run("two of one level count once",
            "vars(5) clause(-1,2) clause(-1,3) pair(5;-2,-3,-4) assume(1) assume(4)", "solve(9) = n",
            "learnt() = -4 -3 -2", "sizeOf(4) = 3", "spreadOf(4) = 2");
    }

    private static void levelsThatAreLeft() {
        // -1 to -5 are decided and 6 put; 5 1 is learnt, -1 alone is left; then 6, -2, -3 and -4 are decided
        Edges.run("up to the greatest level of the others", "vars(6) pair(6;1,5)", "solve(9) = y",
            "learnt() = 5 1", "decisions() = 9", "put() = 2", "values() = 000011");
        Edges.run("up to the level 0, if there are no others", "vars(6) pair(6;5)", "solve(9) = y",
            "learnt() = 5", "decisions() = 10", "put() = 2", "values() = 000011");
    }

    /** 3, 4 and 5 take part in the first conflict alone; then -1 is learnt again and again, in a frame that goes. */
    private static void activities() {
        String first = "vars(5) pair(5;-3,-4) under(3,4) clause(-1,2)";
        String again = " push() clause(-1,-2) under(1) pop()";
        String[] wants = {"0 0 56 56 56", "56 56 49 49 49", "105 105 43 43 43", "148 148 38 38 38"};
        StringBuilder script = new StringBuilder(first);
        for (String want : wants) {
            Edges.run("an eighth less, rounded down", script.toString(), "activities() = " + want);
            script.append(again);
        }
        for (int i = wants.length; i < 18; i++) {
            script.append(again);
        }
        Edges.run("eight lose one", script.toString(), "activities() = 411 411 8 8 8", "conflicts() = 19");
        script.append(again);
        Edges.run("seven lose nothing", script.toString(), "activities() = 416 416 7 7 7");
        script.append(again);
        Edges.run("seven lose nothing", script.toString(), "activities() = 420 420 7 7 7", "forgotten() = 0");
    }

    private static void framesOfLearnt() {
        Edges.run("the frame 0", "vars(3) pair(3;-1,-2) push() under(1,2)", "frames() = 0 0 0");
        Edges.run("of the conflict", "vars(3) clause(-1,-2,3) push() clause(-1,-2,-3) push() under(1,2)",
            "frames() = 0 1 1");
        Edges.run("of what put a literal that was replaced", "vars(3) push() clause(-1,-2,3) push()"
            + " clause(-1,-2,-3) push() push() under(1,2)", "frames() = 1 2 2");
        Edges.run("of what left a literal out", "vars(5) pair(5;-1,-2,-4) push() push() clause(-1,2) push()"
            + " under(1,4)", "learnt() = -4 -1", "frames() = 0 0 2 2");
        Edges.run("of what put a literal of the level 0", "vars(4) pair(4;-1,-2,-3) push() push() push() push()"
            + " clause(3) under(1,2)", "learnt() = -2 -1", "frames() = 0 0 4 4", "pop() = 2");
        Edges.run("and so on back", "vars(5) pair(4;-1,-2,-3) clause(-5,3) push() clause(5) under(1,2)",
            "learnt() = -2 -1", "frames() = 0 0 0 1 1", "pop() = 2");
        Edges.run("and so on back from the first variable", "vars(7) clause(-7,1) pair(3;-1,-2) push() clause(7)"
            + " under(2)", "learnt() = -2", "frames() = 0 0 0 1 1", "pop() = 2");
        Edges.run("of what put a literal of the level 0 of one that left a literal out",
            "vars(6) pair(5;-1,-2,-4) clause(-1,-6,2) push() clause(6) under(1,4)", "learnt() = -4 -1",
            "frames() = 0 0 0 1 1");
        Edges.run("what has nothing to do with it does not count", "vars(5) pair(3;-1,-2) push() clause(-1,4)"
            + " clause(5) under(1,2)", "learnt() = -2 -1", "frames() = 0 0 1 1 0", "pop() = 2", "kinds() = ccl");
        Edges.run("what left a literal out leans on nothing of the level 0", "vars(6) pair(5;-1,-2,-4) clause(-1,2)"
            + " push() clause(6) under(1,4)", "learnt() = -4 -1", "frames() = 0 0 0 1 0");
        framesBesideOthers();
    }

    private static void framesBesideOthers() {
        Edges.run("the conflict ahead of it does not count", "vars(6) pair(3;-1,-2) push() pair(6;-4,-5) under(4,5)"
            + " under(1,2)", "learnt() = -5 -4, -2 -1", "frames() = 0 0 1 1 1 0", "pop() = 3");
        Edges.run("nor the literals of the level 0 of that one", "vars(7) pair(3;-1,-2) pair(7;-4,-5,-6) push()"
            + " clause(6) under(4,5) under(1,2)", "learnt() = -5 -4, -2 -1", "frames() = 0 0 0 0 1 1 0",
            "pop() = 2");
        Edges.run("of two that left literals out by the same literal of the level 0",
            "vars(6) pair(5;-1,-2,-3,-4) clause(-1,-6,2) clause(-1,-6,3) push() clause(6) under(1,4)",
            "learnt() = -4 -1", "frames() = 0 0 0 0 1 1", "pop() = 2");
        // 1 and 2 are put at the level 0, 2 by the number 0, and both are left out of the conflict
        Edges.run("of one that is left out, and put another one that is", "vars(4) clause(-1,2) pair(4;-1,-2,3)"
            + " push() clause(1) solve(9)", "learnt() = 3", "frames() = 0 0 0 1 1", "pop() = 2");
        Edges.run("of the conflict, beside one that left a literal out", "vars(8) clause(-1,2) pair(5;-1,-2,-4,-8)"
            + " push() clause(8) under(1,4)", "learnt() = -4 -1", "frames() = 0 0 0 1 1", "pop() = 2");
        // 3 is put by the frame 1 and 1, behind it, by what was learnt in the frame 0; -1 and -3 are both left out
        Edges.run("of two that are left out, the one put first", "vars(5) pair(2;1) pair(5;-1,-3,4) push() clause(3)"
            + " solve(200)", "learnt() = 1, 4", "frames() = 0 0 0 0 1 0 1", "pop() = 2");
    }

    // ---- restarts and forgetting

    private static void restartsAtThree() {
        Edges.run("2, 2, 2: six are not greater than six", "vars(12) pair(3;1,2) pair(6;4,5) pair(9;7,8)",
            "solve(200) = y", "conflicts() = 3", "spreads() = - - - - - - 2 2 2", "restarts() = 0");
        Edges.run("2, 2, 3: seven are", "vars(12) pair(3;1,2) pair(6;4,5) pair(10;7,8,9)", "solve(200) = y",
            "conflicts() = 3", "spreads() = - - - - - - 2 2 3", "restarts() = 1");
        // the last conflict leaves -1 to -8; behind the restart -7, -8, 10, -4, 6, -1, 3, -11 and -12 are decided
        Edges.run("all that was put above the level 0 leaves", "vars(12) pair(3;1,2) pair(6;4,5) pair(10;7,8,9)",
            "solve(200) = y", "decisions() = 18", "put() = 8", "values() = 011011001100");
        Edges.run("what was put at the level 0 stays", "vars(12) clause(12) pair(3;1,2) pair(6;4,5) pair(10;7,8,9)",
            "solve(200) = y", "decisions() = 17", "put() = 9", "restarts() = 1", "values() = 011011001101");
        Edges.run("2, 3, 3: eight are", "vars(12) pair(3;1,2) pair(7;4,5,6) pair(11;8,9,10)", "solve(200) = y",
            "spreads() = - - - - - - 2 3 3", "restarts() = 1");
        Edges.run("3, 3, 3: nine are not greater than nine", "vars(12) pair(4;1,2,3) pair(8;5,6,7)"
            + " pair(12;9,10,11)", "solve(200) = y", "spreads() = - - - - - - 3 3 3", "restarts() = 0");
        Edges.run("1, 1, 1: three are not greater than three", "vars(6) pair(2;1) pair(4;3) pair(6;5)",
            "solve(200) = y", "conflicts() = 3", "spreads() = - - - - - - 1 1 1", "restarts() = 0");
        Edges.run("1, 1, 2: four are", "vars(7) pair(2;1) pair(4;3) pair(7;5,6)", "solve(200) = y",
            "spreads() = - - - - - - 1 1 2", "restarts() = 1");
        Edges.run("two are too few", "vars(12) pair(3;1,2) pair(8;4,5,6,7)", "solve(200) = y",
            "spreads() = - - - - 2 4", "conflicts() = 2", "restarts() = 0");
        Edges.run("a restart at the level 0 is one", "vars(7) pair(3;1,2) pair(5;4) pair(7;6)", "solve(200) = y",
            "spreads() = - - - - - - 2 1 1", "restarts() = 1");
    }

    private static void restartsOfThisSearch() {
        String script = "vars(12) pair(3;1,2) pair(6;4,5) pair(10;7,8,9)";
        Edges.run("just three, but the answer is '?'", script, "solve(3) = ?", "restarts() = 0", "solve(1) = y",
            "restarts() = 0");
        Edges.run("the third one, but the first one of its search", script, "solve(2) = ?", "solve(200) = y",
            "conflicts() = 3", "restarts() = 0");
        Edges.run("the third one, but the second one of its search", script, "solve(1) = ?", "solve(200) = y",
            "conflicts() = 3", "restarts() = 0");
        // 1 and 1, beside 3 of the search before, would be more than three times their mean
        Edges.run("none of the search before counts", "vars(12) push() pair(4;1,2,3) pair(8;5,6,7) pair(12;9,10,11)"
            + " solve(3) pop() pair(2;1) pair(6;5)", "conflicts() = 3", "solve(200) = y", "conflicts() = 5",
            "spreads() = - - - - 1 1", "restarts() = 0");
        // the first search learns 3 and 3; the second one 2, 1 and 1, which are more than three times their mean
        Edges.run("the mean of this search alone", "vars(12) push() pair(4;1,2,3) pair(8;5,6,7) solve(200) pop()"
            + " pair(4;1,2) pair(10;9) pair(12;11)", "conflicts() = 2", "solve(200) = y", "conflicts() = 5",
            "spreads() = - - - - - - 2 1 1", "meanSpread() = 2.0", "restarts() = 1");
    }

    private static void restartsSinceTheLast() {
        // behind 1, 2, 2 there is a restart; with the fourth the last ones are 2, 2, 2, more than three times 7 / 4
        Edges.run("the fourth one is the first one since", "vars(12) pair(2;1) pair(5;3,4) pair(8;6,7)"
            + " pair(11;9,10)", "solve(200) = y", "conflicts() = 4", "spreads() = - - - - - - - - 1 2 2 2",
            "restarts() = 1");
    }

    /**
     * Each row of six clauses teaches b a, a and -b, with the spreads 2, 1, 1; the third one of each row is the
     * third one since the last restart, and 4 is greater than three times the mean rounded down, 1. So it is with
     * the first and the second one of the second row, 1 1 2 and 1 2 1, but they come too early.
     */
    private static void restartsAgainAndAgain() {
        String first = "vars(12) pair(3;1,2) pair(3;1,-2) pair(3;-1,-2)";
        String twice = first + " pair(6;4,5) pair(6;4,-5) pair(6;-4,-5)";
        int[] restarts = {0, 0, 0, 1, 1, 1, 2};
        for (int budget = 1; budget <= 7; budget++) {
            Edges.run("three since the last restart", twice, "solve(" + budget + ") = " + (budget < 7 ? '?' : 'y'),
                "conflicts() = " + (budget < 7 ? budget : 6), "restarts() = " + restarts[budget - 1]);
        }
        Edges.run("three since the last restart", twice, "solve(200) = y", "restarts() = 2",
            "spreads() = - - - - - - - - - - - - 2 1 1 2 1 1");
        // 2, 1, 1 and a restart, 2, 2, 2 and another one: 6 is greater than three times 10 / 6, rounded down
        Edges.run("the mean of all since the search began", first + " pair(6;4,5) pair(9;7,8) pair(12;10,11)",
            "solve(200) = y", "spreads() = - - - - - - - - - - - - 2 1 1 2 2 2", "restarts() = 2");
    }

    /**
     * The numbers 2, -3 -2 -1, and 5, -4 -3 -1, are learnt with the spread 3, and then four of the spread 2. In the
     * last search 1 and 2 put -3 by the number 2; 6, 8 and 11 10 are learnt, the ninth that holds, and there is a
     * restart, so that the number 2 has put no literal any more when one is forgotten.
     */
    private static void forgottenBehindTheRestart() {
        Edges.run("the restart comes first", "vars(12) teach(5;1,2,3) teach(5;1,3,4) teach(5;-1,-2) teach(5;-1,-3)"
            + " teach(5;-1,-4) teach(5;-3,-4) pair(7;6) pair(9;8) pair(12;10,11) assume(1) assume(2)",
            "learnt() = -3 -2 -1, -4 -3 -1, 2 1, 3 1, 4 1, 4 3", "solve(200) = y", "restarts() = 1",
            "forgotten() = 1", "learnt() = -4 -3 -1, 2 1, 3 1, 4 1, 4 3, 6, 8, 11 10",
            "kindOf(2) = " + Edges.INDEX);
    }

    private static void eightAreKept() {
        Edges.run("eight hold", EIGHT, "learnt() = -3 -2 -1, -5 -4 -1, -7 -6 -1, -9 -8 -1, -6 -4 -2, -7 -5 -2,"
            + " -7 -4 -3, -6 -5 -3", "forgotten() = 0", "conflicts() = 8", "constraints() = 24");
        Edges.run("eight hold, each with the spread 3", EIGHT, "spreads() = - - 3 - - 3 - - 3 - - 3 - - 3 - - 3"
            + " - - 3 - - 3");
    }

    private static void nineAreTooMany() {
        Edges.run("a ninth one: the lowest-numbered one goes", EIGHT + " teach(12;2,8,10)", "forgotten() = 1",
            "kindOf(2) = " + Edges.INDEX, "kindOf(5) = l", "kindOf(26) = l", "constraints() = 26",
            "lines() = 28", "lineKind(26) = a", "lineNumber(26) = 26", "lineKind(27) = d", "lineNumber(27) = 2",
            "isChecked() = true");
        Edges.run("and a tenth one", EIGHT + " teach(12;2,8,10) teach(12;3,9,10)", "forgotten() = 2",
            "kindOf(5) = " + Edges.INDEX, "kindOf(8) = l", "lineNumber(31) = 5");
        // what taught it is kept aside, so that it has the lowest number of all that hold
        Edges.run("the first one that holds goes", "vars(12) teach(11;1,2,3) eliminate(10)"
            + EIGHT.substring(EIGHT.indexOf(TRIPLES[0]) + TRIPLES[0].length()) + " teach(12;2,8,10)",
            "forgotten() = 1", "constraintAt(0) = 3", "kindOf(3) = r", "written(3) = -1 -2 -3");
    }

    private static void whichIsForgotten() {
        Edges.run("that with the greatest spread", "vars(12) teach(12;1,2,3) teach(12;1,4,5) teach(12;7,8,10,11)"
            + " teach(12;1,6,7) teach(12;1,8,9) teach(12;2,4,6) teach(12;2,5,7) teach(12;3,4,7) teach(12;3,5,6)",
            "forgotten() = 1", "kindOf(8) = " + Edges.INDEX, "kindOf(2) = l", "spreadOf(5) = 3");
        // 1 and 2 put -3 by the learnt number 2, which is used then: -2 -1 is learnt, as number 5
        Edges.run("that used least", "vars(12) teach(12;1,2,3) pair(12;-2,3) under(1,2) teach(12;1,4,5)"
            + " teach(12;1,6,7) teach(12;1,8,9) teach(12;2,4,6) teach(12;2,5,7) teach(12;3,4,7)",
            "usesOf(2) = 1", "usesOf(8) = 0", "spreadOf(5) = 2", "spreadOf(8) = 3", "forgotten() = 0",
            "teach(12;3,5,6) = 3", "forgotten() = 1", "kindOf(2) = l", "kindOf(8) = " + Edges.INDEX);
    }

    private static void putsALiteral() {
        String sharing = "vars(12) teach(12;1,2,3) teach(12;1,2,4) teach(12;1,2,5) teach(12;1,2,6) teach(12;1,2,7)"
            + " teach(12;1,2,8) teach(12;1,2,9) teach(12;1,2,10) teach(12;1,2,11)";
        // under 1 and 2 each of the eight puts a literal at the level 2, which is left behind the conflict
        Edges.run("all put a literal that is on the trail", sharing, "forgotten() = 0", "constraints() = 27",
            "kindOf(2) = l", "kindOf(26) = l");
        Edges.run("then ten hold, and one goes", sharing + " teach(12;3,4,5)", "forgotten() = 1",
            "kindOf(2) = " + Edges.INDEX, "kindOf(5) = l", "constraints() = 29");
        Edges.run("the lowest-numbered one puts a literal, the next one does not", EIGHT + " teach(12;1,2,11)",
            "forgotten() = 1", "kindOf(2) = l", "kindOf(5) = " + Edges.INDEX);
    }

    private static void spreadOfTwo() {
        Edges.run("a ninth one, and all have the spread 2", EIGHT_PAIRS + " teach(12;2,4)", "forgotten() = 0",
            "constraints() = 27", "spreadOf(2) = 2", "spreadOf(26) = 2");
        Edges.run("a ninth one with the spread 3 has just been learnt", EIGHT_PAIRS + " teach(12;9,10,11)",
            "forgotten() = 0", "spreadOf(26) = 3", "constraints() = 27");
        Edges.run("then it goes", EIGHT_PAIRS + " teach(12;9,10,11) teach(12;2,4)", "forgotten() = 1",
            "kindOf(26) = " + Edges.INDEX, "kindOf(29) = l", "constraints() = 29");
    }

    private static void behindTheBudget() {
        String nine = EIGHT + " pair(12;-2,-8,-10) assume(2) assume(8) assume(10)";
        Edges.run("with the answer '?' nothing is forgotten", nine, "solve(1) = ?", "forgotten() = 0",
            "kindOf(2) = l", "solve(1) = n", "forgotten() = 0", "constraints() = 27");
        Edges.run("with a greater budget one is", nine, "solve(2) = n", "forgotten() = 1",
            "kindOf(2) = " + Edges.INDEX, "constraints() = 26");
        Edges.run("behind the next learning one goes, and not two", nine + " solve(1) dropAssumptions()"
            + " teach(12;3,9,10)", "forgotten() = 1", "kindOf(2) = " + Edges.INDEX, "kindOf(5) = l");
    }

    private static void goneOtherwise() {
        Edges.run("eight hold, as one of nine went with its frame", "vars(12) push() teach(12;9,10,11) pop() "
            + EIGHT.substring(9), "forgotten() = 0", "conflicts() = 9", "constraints() = 24");
        Edges.run("eight hold, as one of nine went with its variable", "vars(12) pair(11;-9,-10) under(9,10)"
            + " eliminate(8) " + EIGHT.replace("teach(12;1,8,9)", "teach(12;1,8,10)").substring(9),
            "forgotten() = 0", "conflicts() = 9", "constraints() = 24", "isEliminated(8) = true");
    }

    // ---- cores

    private static void coresOfRepeated() {
        Edges.run("of two equal ones the later one is left", "vars(1) assume(1) assume(1) assume(-1)",
            "solve(1) = n", "core() = 6");
        Edges.run("each is left out for good", "vars(3) clause(-1,-2) clause(-2,-3) assume(1) assume(2) assume(3)",
            "solve(1) = n", "core() = 6");
        Edges.run("all of three", "vars(3) odd(1,2,3) assume(1) assume(2) assume(-3)", "solve(1) = n",
            "core() = 7");
        Edges.run("with what is kept aside", "vars(3) clause(1,2) clause(-1,3) eliminate(0) assume(-3) assume(-2)",
            "solve(1) = n", "core() = 3");
    }

    // ---- elimination and the proof

    private static void bringingBackSix() {
        String script = "vars(7) clause(1,7) clause(2,7) clause(3,7) clause(4,7) clause(5,7) clause(6,7)"
            + " eliminate(5) eliminate(4) eliminate(3) eliminate(2) eliminate(1) eliminate(0)";
        Edges.run("six at once, by rising numbers", script, "away() = 1111110", "clause(6,5,4,3,2,1) = 6",
            "away() = 0000000",
            "proof() = t0 t1 t2 t3 t4 t5 d5 d4 d3 d2 d1 d0 t0 t1 t2 t3 t4 t5 t6");
        Edges.run("two of six", script, "bound(2;5,-2,7) = 6", "away() = 1011010",
            "proof() = t0 t1 t2 t3 t4 t5 d5 d4 d3 d2 d1 d0 t1 t4 t6", "held() = 1 4 6");
        Edges.run("two clauses with the same one", "vars(3) clause(1,2,3) clause(1,2,-3) eliminate(0) eliminate(1)",
            "assume(-1) = 1", "away() = 000", "proof() = t0 t1 d0 d1 t0 t1");
        Edges.run("none of six", script, "clause(7) = 6", "away() = 1111110", "held() = 6");
        bringingBackInTurn();
    }

    private static void bringingBackInTurn() {
        String script = "vars(7) clause(2,7) clause(5,3) clause(7,1) eliminate(1) eliminate(6) eliminate(4)";
        Edges.run("each with all that follows", script, "clause(2,5) = 3", "away() = 0000000",
            "proof() = t0 t1 t2 d0 d2 d1 t0 t2 t1 t3");
        Edges.run("also those that are told behind it", script, "clause(5,2) = 3", "away() = 0000000",
            "proof() = t0 t1 t2 d0 d2 d1 t0 t2 t1 t3");
        Edges.run("the first one alone", script, "assume(2) = 1", "away() = 0000100",
            "proof() = t0 t1 t2 d0 d2 d1 t0 t2");
        // 2 brings back 1 and 3, by rising numbers, and 1 brings back 7 ahead of 3
        Edges.run("those in the clauses, by rising numbers", "vars(7) clause(3,2,1) clause(7,1) clause(3,4)"
            + " clause(5,7) eliminate(1) eliminate(0) eliminate(6) eliminate(2)", "assume(-2) = 1",
            "away() = 0000000", "proof() = t0 t1 t2 t3 d0 d1 d3 d2 t0 t1 t3 t2");
        Edges.run("the clauses come back with what was told of them", "vars(3) clause(2,1) clause(1,-2) solve(1)"
            + " eliminate(1)", "uses() = 0 0", "held() = 2 3", "assume(2) = 1", "held() = 0 1 2 3",
            "uses() = 1 1 0 0", "frames() = 0 0 0 0", "written(0) = 2 1", "kinds() = cclr");
    }

    private static void bringingBackTwelve() {
        StringBuilder script = new StringBuilder("vars(12)");
        StringBuilder lines = new StringBuilder();
        for (int i = 1; i <= 11; i++) {
            script.append(" clause(").append(i).append(',').append(i + 1).append(')');
            lines.append(" t").append(i - 1);
        }
        for (int i = 0; i < 12; i++) {
            script.append(" eliminate(").append(i).append(')');
        }
        String gone = lines.toString().replace('t', 'd');
        Edges.run("each one brings back the next one", script.toString(), "away() = 111111111111",
            "constraints() = 0", "modelsByTrying() = 377", "assume(1) = 1", "away() = 000000000000",
            "proof() = " + (lines + gone + lines).substring(1));
        Edges.run("the last one brings back nothing", script.toString(), "assume(12) = 1",
            "away() = 111111111110", "constraints() = 0");
        Edges.run("the last but one brings back the last one", script.toString(), "assume(-11) = 1",
            "away() = 111111111100", "held() = 10");
    }

    private static void modelsOfEliminated() {
        Edges.run("false, if no clause needs it", "vars(2) clause(-1,2) eliminate(0) eliminate(1)", "solve(1) = y",
            "values() = 00", "isModel() = true");
        Edges.run("true, if several clauses need it", "vars(3) clause(1,2) clause(1,3) eliminate(0)", "solve(1) = y",
            "values() = 100", "isModel() = true");
        // 2 went last and gets its value first: nothing needs it; then 1 2 needs 1
        Edges.run("the one that went last first", "vars(2) clause(1,2) eliminate(0) eliminate(1)", "solve(1) = y",
            "values() = 10", "isModel() = true");
        Edges.run("the one that went last first", "vars(2) clause(1,2) eliminate(1) eliminate(0)", "solve(1) = y",
            "values() = 01", "isModel() = true");
        // 3 is false, so that 2 3 needs 2; then nothing needs 1
        Edges.run("the one that went last first, and this one needs it", "vars(3) clause(1,2) clause(2,3)"
            + " eliminate(0) eliminate(1)", "solve(1) = y", "values() = 010", "isModel() = true");
        Edges.run("one after the other", "vars(6) clause(1,2) clause(2,3) clause(3,4) clause(4,5) clause(5,6)"
            + " eliminate(0) eliminate(1) eliminate(2) eliminate(3) eliminate(4)", "solve(1) = y",
            "values() = 101010", "isModel() = true");
        Edges.run("those that stay away when another one is brought back",
            "vars(6) clause(1,2) clause(3,4) clause(5,6) eliminate(0) eliminate(2) eliminate(4) assume(-3)",
            "away() = 100010", "solve(1) = y", "values() = 100110", "isModel() = true");
        Edges.run("one that was brought back and went again", "vars(2) clause(1,2) eliminate(0) eliminate(1)"
            + " assume(1) dropAssumptions() eliminate(1) eliminate(0)", "solve(1) = y", "values() = 01",
            "isModel() = true", "proof() = t0 d0 t0 d0");
    }

    private static void linesOfTheProof() {
        Edges.run("resolvents, then what goes by rising numbers, learnt ones among it",
            "vars(3) clause(1,2) clause(1,-2) solve(1) clause(-1,3)", "eliminate(0) = 2",
            "proof() = t0 t1 a2 t3 a4 a5 d0 d1 d2 d3", "isChecked() = true");
        Edges.run("a frame that is popped, by rising numbers, learnt ones among it",
            "vars(2) clause(1,2) push() clause(1,-2) solve(1) clause(-2)", "pop() = 3",
            "proof() = t0 t1 a2 t3 d1 d2 d3");
        Edges.run("an assumption that brings back tells no line of its own", "vars(2) clause(1,2) eliminate(0)",
            "assume(1) = 1", "assume(1) = 2", "proof() = t0 d0 t0");
        Edges.run("what was not eliminated tells no line", "vars(2) eliminate(0)", "assume(1) = 1", "lines() = 0",
            "clause(1) = 0", "lines() = 1");
    }
}
