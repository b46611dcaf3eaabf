import java.util.ArrayList;
import java.util.Arrays;
import java.util.NoSuchElementException;

/**
 * A solver for satisfiability over at most 12 variables: clauses, parity rows and bound rows in frames,
 * searches that learn and forget, elimination of variables, and a proof that a small checker follows.
 *
 * Sets of variables are held as the bits of an int, since there are never more than 12.
 */
public final class ClauseHold {
    private static final int MOST_VARIABLES = 12;
    private static final int MOST_TYPED = 6;
    private static final int MOST_TOLD = 50;
    private static final int MOST_FRAMES = 4;
    private static final int MOST_ASSUMED = 6;
    private static final int MOST_BOUND = 5;
    private static final int MOST_BUDGET = 200;
    private static final int MOST_UNLEARNT = 100;
    private static final int MOST_LEARNT = 8;
    private static final int SMALL_SPREAD = 2;
    private static final int LAST_SPREADS = 3;
    private static final int ACTIVITY_STEP = 64;
    private static final int ACTIVITY_PART = 8;
    private static final int NO_VARIABLE = -1;
    private static final int FAR = 1000000;
    private static final char NO_ANSWER = '-';

    private final IntRow typed;
    private final IntRow assumed;
    private final Book book;
    private final Shelf shelf;
    private final Search search;
    private final Trail spare;
    private final Trial trial;
    private final StringBuilder text;
    private int variables;
    private int told;
    private int lastFrame;
    private char lastAnswer;
    private int model;
    private int modelVariables;
    private int modelConstraints;
    private int lastCore;

    public ClauseHold() {
        Book shared = new Book();
        typed = new IntRow();
        assumed = new IntRow();
        book = shared;
        shelf = new Shelf(shared);
        search = new Search(shared);
        spare = new Trail();
        trial = new Trial();
        text = new StringBuilder();
        variables = 0;
        told = 0;
        lastFrame = 0;
        lastAnswer = NO_ANSWER;
        model = 0;
        modelVariables = 0;
        modelConstraints = 0;
        lastCore = 0;
    }

    // ---- variables and constraints

    public int addVariable() throws IllegalStateException {
        if (variables >= MOST_VARIABLES) {
            throw new IllegalStateException("there are 12 variables");
        }
        variables++;
        return variables - 1;
    }

    public int type(int literal) throws IllegalArgumentException, IllegalStateException {
        if (!isLiteral(literal) || isTyped(variableOf(literal))) {
            throw new IllegalArgumentException("no such literal, or its variable is typed");
        }
        if (typed.count >= MOST_TYPED) {
            throw new IllegalStateException("6 literals are typed");
        }
        typed.append(literal);
        return typed.count;
    }

    public int clear() {
        int before = typed.count;
        typed.empty();
        return before;
    }

    public int addClause() throws IllegalStateException {
        if (!canTell()) {
            throw new IllegalStateException("nothing is typed, or 50 constraints were told");
        }
        return tell('c', 0);
    }

    public int addParity(boolean isOdd) throws IllegalStateException {
        if (!canTell()) {
            throw new IllegalStateException("nothing is typed, or 50 constraints were told");
        }
        return tell('x', isOdd ? 1 : 0);
    }

    public int addBound(int most) throws IllegalArgumentException, IllegalStateException {
        if (most < 0 || most > MOST_BOUND) {
            throw new IllegalArgumentException("the number is out of range");
        }
        if (!canTell()) {
            throw new IllegalStateException("nothing is typed, or 50 constraints were told");
        }
        return tell('m', most);
    }

    // ---- frames and assumptions

    public int push() throws IllegalStateException {
        if (lastFrame >= MOST_FRAMES) {
            throw new IllegalStateException("there are 4 frames above the frame 0");
        }
        lastFrame++;
        return lastFrame;
    }

    public int pop() throws IllegalStateException {
        if (lastFrame <= 0) {
            throw new IllegalStateException("there is only the frame 0");
        }
        int gone = book.takeOutFrame(lastFrame);
        lastFrame--;
        return gone;
    }

    public int frame() {
        return lastFrame;
    }

    public int assume(int literal) throws IllegalArgumentException, IllegalStateException {
        if (!isLiteral(literal)) {
            throw new IllegalArgumentException("no such literal");
        }
        if (assumed.count >= MOST_ASSUMED) {
            throw new IllegalStateException("there are 6 assumptions");
        }
        shelf.bringBackAll(bitOf(variableOf(literal)));
        assumed.append(literal);
        return assumed.count;
    }

    public int dropAssumptions() {
        int before = assumed.count;
        assumed.empty();
        return before;
    }

    // ---- searching

    public char solve(int conflicts) throws IllegalArgumentException {
        if (conflicts < 1 || conflicts > MOST_BUDGET) {
            throw new IllegalArgumentException("the budget is out of range");
        }
        lastAnswer = search.run(conflicts, allVariables() & ~shelf.eliminated, assumed);
        if (lastAnswer == 'y') {
            model = shelf.completeModel(search.found);
            modelVariables = variables;
            modelConstraints = book.total;
        }
        if (lastAnswer == 'n') {
            tryConstraints();
            lastCore = trial.smallCore(assumed);
        }
        return lastAnswer;
    }

    public char answer() {
        return lastAnswer;
    }

    public boolean valueOf(int variable) throws IndexOutOfBoundsException, NoSuchElementException {
        if (!isVariable(variable)) {
            throw new IndexOutOfBoundsException("no such variable");
        }
        if (lastAnswer != 'y' || variable >= modelVariables) {
            throw new NoSuchElementException("no value in a model");
        }
        return (model & bitOf(variable)) != 0;
    }

    public int core() throws NoSuchElementException {
        if (lastAnswer != 'n') {
            throw new NoSuchElementException("the last answer is not 'n'");
        }
        return lastCore;
    }

    public boolean isForced(int literal) throws IllegalArgumentException {
        if (!isLiteral(literal)) {
            throw new IllegalArgumentException("no such literal");
        }
        spare.reset();
        return spare.propagate(book.held) != null || spare.isTrue(literal);
    }

    // ---- elimination

    public int eliminate(int variable)
            throws IndexOutOfBoundsException, IllegalStateException, UnsupportedOperationException {
        if (!isVariable(variable)) {
            throw new IndexOutOfBoundsException("no such variable");
        }
        if (shelf.isAway(variable) || lastFrame > 0) {
            throw new IllegalStateException("it is eliminated, or there are frames above the frame 0");
        }
        if (isAssumed(variable) || !shelf.canEliminate(variable)) {
            throw new UnsupportedOperationException("it is assumed, in a row, or would leave too many constraints");
        }
        return shelf.takeAway(variable);
    }

    public boolean isEliminated(int variable) throws IndexOutOfBoundsException {
        if (!isVariable(variable)) {
            throw new IndexOutOfBoundsException("no such variable");
        }
        return shelf.isAway(variable);
    }

    // ---- what holds

    public int constraints() {
        return book.held.size();
    }

    public int constraintAt(int index) throws IndexOutOfBoundsException {
        if (index < 0 || index >= book.held.size()) {
            throw new IndexOutOfBoundsException("no such index");
        }
        return book.held.get(index).number;
    }

    public char kindOf(int number) throws IndexOutOfBoundsException {
        Constraint row = book.find(number);
        if (row == null) {
            throw new IndexOutOfBoundsException("no such constraint that holds");
        }
        return row.kind;
    }

    public int sizeOf(int number) throws IndexOutOfBoundsException {
        Constraint row = book.find(number);
        if (row == null) {
            throw new IndexOutOfBoundsException("no such constraint that holds");
        }
        return row.literals.length;
    }

    public int literalAt(int number, int index) throws IndexOutOfBoundsException, NoSuchElementException {
        Constraint row = book.find(number);
        if (row == null) {
            throw new IndexOutOfBoundsException("no such constraint that holds");
        }
        if (index < 0 || index >= row.literals.length) {
            throw new NoSuchElementException("no such index");
        }
        return row.literals[index];
    }

    public int frameOf(int number) throws IndexOutOfBoundsException {
        Constraint row = book.find(number);
        if (row == null) {
            throw new IndexOutOfBoundsException("no such constraint that holds");
        }
        return row.home;
    }

    public int spreadOf(int number) throws IndexOutOfBoundsException, NoSuchElementException {
        Constraint row = book.find(number);
        if (row == null) {
            throw new IndexOutOfBoundsException("no such constraint that holds");
        }
        if (row.kind != 'l') {
            throw new NoSuchElementException("it is no learnt clause");
        }
        return row.spread;
    }

    public int usesOf(int number) throws IndexOutOfBoundsException {
        Constraint row = book.find(number);
        if (row == null) {
            throw new IndexOutOfBoundsException("no such constraint that holds");
        }
        return row.uses;
    }

    public long activityOf(int variable) throws IndexOutOfBoundsException {
        if (!isVariable(variable)) {
            throw new IndexOutOfBoundsException("no such variable");
        }
        return search.learner.activityAt(variable);
    }

    public boolean phaseOf(int variable) throws IndexOutOfBoundsException {
        if (!isVariable(variable)) {
            throw new IndexOutOfBoundsException("no such variable");
        }
        return (search.trail.phases & bitOf(variable)) != 0;
    }

    // ---- figures

    public int conflicts() {
        return search.conflictCount;
    }

    public int decisions() {
        return search.decisionCount;
    }

    public int restarts() {
        return search.restartCount;
    }

    public int forgotten() {
        return search.forgottenCount;
    }

    public long put() {
        return search.trail.putCount;
    }

    public double meanSpread() throws ArithmeticException {
        if (search.learntEver == 0) {
            throw new ArithmeticException("no clause was learnt");
        }
        return (double) search.spreadsEver / (double) search.learntEver;
    }

    public float learntShare() throws ArithmeticException {
        int all = book.held.size();
        if (all == 0) {
            throw new ArithmeticException("no constraint holds");
        }
        return (float) book.heldLearnt() / (float) all;
    }

    // ---- proof and other ways

    public int lines() {
        return book.proof.rows.size();
    }

    public char lineKind(int index) throws IndexOutOfBoundsException {
        if (index < 0 || index >= book.proof.rows.size()) {
            throw new IndexOutOfBoundsException("no such line");
        }
        return (char) book.proof.kinds.at(index);
    }

    public int lineNumber(int index) throws IndexOutOfBoundsException {
        if (index < 0 || index >= book.proof.rows.size()) {
            throw new IndexOutOfBoundsException("no such line");
        }
        return book.proof.rows.get(index).number;
    }

    public boolean isChecked() {
        return book.proof.check();
    }

    public boolean isModel() throws NoSuchElementException {
        if (lastAnswer != 'y' || variables != modelVariables || book.total != modelConstraints) {
            throw new NoSuchElementException("no model of what holds");
        }
        int no = allVariables() & ~model;
        return allMet(book.held, model, no) && allMet(shelf.aside, model, no);
    }

    public char answerByTrying() {
        tryConstraints();
        return trial.hasModel(assumed, -1) ? 'y' : 'n';
    }

    public int modelsByTrying() {
        tryConstraints();
        return trial.models();
    }

    public int writeConstraint(int number) throws IndexOutOfBoundsException {
        Constraint row = book.find(number);
        if (row == null) {
            throw new IndexOutOfBoundsException("no such constraint that holds");
        }
        text.setLength(0);
        row.writeTo(text);
        return text.length();
    }

    public char textAt(int index) throws IndexOutOfBoundsException {
        if (index < 0 || index >= text.length()) {
            throw new IndexOutOfBoundsException("no such character");
        }
        return text.charAt(index);
    }

    // ---- what the calls share

    private static int variableOf(int literal) {
        return (literal > 0 ? literal : -literal) - 1;
    }

    private static int bitOf(int variable) {
        return 1 << variable;
    }

    private static boolean allMet(ArrayList<Constraint> rows, int yes, int no) {
        boolean met = true;
        for (int i = 0; i < rows.size() && met; i++) {
            met = !rows.get(i).isFalse(yes, no);
        }
        return met;
    }

    private boolean isVariable(int variable) {
        return variable >= 0 && variable < variables;
    }

    private boolean isLiteral(int literal) {
        return literal != 0 && literal >= -variables && literal <= variables;
    }

    private int allVariables() {
        return (1 << variables) - 1;
    }

    private boolean isTyped(int variable) {
        return typed.hasVariable(variable);
    }

    private boolean isAssumed(int variable) {
        return assumed.hasVariable(variable);
    }

    private boolean canTell() {
        return typed.count > 0 && told < MOST_TOLD;
    }

    private int tell(char kind, int limit) {
        int[] literals = typed.copy();
        typed.empty();
        told++;
        int wanted = 0;
        for (int i = 0; i < literals.length; i++) {
            wanted |= bitOf(variableOf(literals[i]));
        }
        shelf.bringBackAll(wanted);
        return book.enter(kind, lastFrame, literals, limit).number;
    }

    private void tryConstraints() {
        trial.begin(variables);
        trial.keepAll(book.held);
        trial.keepAll(shelf.aside);
    }

    /** A row of numbers that grows. */
    private static final class IntRow {
        private static final int FIRST_LENGTH = 8;

        int[] items;
        int count;

        IntRow() {
            items = new int[FIRST_LENGTH];
            count = 0;
        }

        void append(int item) {
            if (count >= items.length && count < FAR) {
                items = Arrays.copyOf(items, 2 * count + FIRST_LENGTH);
            }
            if (count >= 0 && count < items.length) {
                items[count] = item;
                count++;
            }
        }

        int at(int index) {
            return index >= 0 && index < count && index < items.length ? items[index] : 0;
        }

        void empty() {
            count = 0;
        }

        void removeItem(int item) {
            int kept = 0;
            for (int i = 0; i < count && i < items.length; i++) {
                if (items[i] != item) {
                    items[kept] = items[i];
                    kept++;
                }
            }
            count = kept;
        }

        int[] copy() {
            int[] all = new int[count > 0 ? count : 0];
            for (int i = 0; i < all.length; i++) {
                all[i] = at(i);
            }
            return all;
        }

        boolean hasVariable(int variable) {
            boolean has = false;
            for (int i = 0; i < count; i++) {
                has = has || variableOf(at(i)) == variable;
            }
            return has;
        }
    }

    /** A clause, a parity row or a bound row; the trail comes to it as the bits of the true and the false variables. */
    private static final class Constraint {
        final int number;
        final char kind;
        final int home;
        final int[] literals;
        final int limit;
        final int positive;
        final int negative;
        int asideWith;
        int spread;
        int uses;

        Constraint(int number, char kind, int home, int[] literals, int limit) {
            this.number = number;
            this.kind = kind;
            this.home = home;
            this.literals = literals;
            this.limit = limit;
            int above = 0;
            int below = 0;
            for (int i = 0; i < literals.length; i++) {
                if (literals[i] > 0) {
                    above |= bitOf(variableOf(literals[i]));
                } else {
                    below |= bitOf(variableOf(literals[i]));
                }
            }
            positive = above;
            negative = below;
            asideWith = NO_VARIABLE;
            spread = 0;
            uses = 0;
        }

        boolean isClause() {
            return kind != 'x' && kind != 'm';
        }

        int all() {
            return positive | negative;
        }

        private int trueOnes(int yes, int no) {
            return positive & yes | negative & no;
        }

        boolean isFalse(int yes, int no) {
            int met = trueOnes(yes, no);
            if (kind == 'm') {
                return Integer.bitCount(met) > limit;
            }
            if ((all() & ~(yes | no)) != 0) {
                return false;
            }
            return kind == 'x' ? (Integer.bitCount(met) & 1) != limit : met == 0;
        }

        /** The first literal that it forces, or 0; it is not false. */
        int forcedLiteral(int yes, int no) {
            int open = all() & ~(yes | no);
            if (open == 0) {
                return 0;
            }
            int met = trueOnes(yes, no);
            int first = firstOf(open);
            if (kind == 'm') {
                return Integer.bitCount(met) >= limit ? -first : 0;
            }
            if (Integer.bitCount(open) != 1) {
                return 0;
            }
            if (kind == 'x') {
                return (Integer.bitCount(met) & 1) == limit ? -first : first;
            }
            return met == 0 ? first : 0;
        }

        private int firstOf(int open) {
            int first = 0;
            for (int i = 0; i < literals.length && first == 0; i++) {
                if ((open & bitOf(variableOf(literals[i]))) != 0) {
                    first = literals[i];
                }
            }
            return first;
        }

        /** The variables of its clause, when of the trail only these variables are looked at. */
        int causes(int yes, int no, int ahead) {
            return (kind == 'm' ? trueOnes(yes, no) : all()) & ahead;
        }

        void writeTo(StringBuilder out) {
            for (int i = 0; i < literals.length; i++) {
                if (i > 0) {
                    out.append(' ');
                }
                out.append(literals[i]);
            }
            if (literals.length == 0) {
                out.append('-');
            }
            if (kind == 'x') {
                out.append(limit == 1 ? " odd" : " even");
            }
            if (kind == 'm') {
                out.append(" <=");
                out.append(limit);
            }
        }
    }

    /** The lines of the proof, and a checker that goes on where it ended before. */
    private static final class Proof {
        final IntRow kinds;
        final ArrayList<Constraint> rows;
        private final ArrayList<Constraint> standing;
        private final Trail trail;
        private int checked;
        private boolean isRight;

        Proof() {
            kinds = new IntRow();
            rows = new ArrayList<Constraint>();
            standing = new ArrayList<Constraint>();
            trail = new Trail();
            checked = 0;
            isRight = true;
        }

        void note(char kind, Constraint row) {
            kinds.append(kind);
            rows.add(row);
        }

        /** What was right stays so, as lines are only ever added: each line is looked at once in an object's life. */
        boolean check() {
            for (int i = checked; i >= 0 && i < rows.size(); i++) {
                Constraint row = rows.get(i);
                if (kinds.at(i) == 'a') {
                    isRight = isRight && follows(row);
                }
                if (kinds.at(i) == 'd') {
                    removeFrom(standing, row);
                } else {
                    insertInto(standing, row);
                }
            }
            checked = rows.size();
            return isRight;
        }

        private boolean follows(Constraint clause) {
            trail.reset();
            for (int i = 0; i < clause.literals.length; i++) {
                trail.place(-clause.literals[i], null);
            }
            return trail.propagate(standing) != null;
        }

        static void insertInto(ArrayList<Constraint> list, Constraint row) {
            int place = list.size();
            for (int i = list.size() - 1; i >= 0 && list.get(i).number > row.number; i--) {
                place = i;
            }
            list.add(place, row);
        }

        static void removeFrom(ArrayList<Constraint> list, Constraint row) {
            int place = -1;
            for (int i = 0; i < list.size(); i++) {
                if (list.get(i) == row) {
                    place = i;
                }
            }
            if (place >= 0) {
                list.remove(place);
            }
        }
    }

    /** The constraints that hold, by rising numbers, with the proof that tells of each coming and going. */
    private static final class Book {
        final ArrayList<Constraint> held;
        final Proof proof;
        int total;

        Book() {
            held = new ArrayList<Constraint>();
            proof = new Proof();
            total = 0;
        }

        Constraint find(int number) {
            Constraint found = null;
            for (int i = 0; i < held.size() && found == null; i++) {
                if (held.get(i).number == number) {
                    found = held.get(i);
                }
            }
            return found;
        }

        Constraint enter(char kind, int home, int[] literals, int limit) {
            Constraint row = new Constraint(total, kind, home, literals, limit);
            total++;
            held.add(row);
            proof.note(kind == 'l' || kind == 'r' ? 'a' : 't', row);
            return row;
        }

        void holdAgain(Constraint row) {
            Proof.insertInto(held, row);
            proof.note('t', row);
        }

        void takeOut(Constraint row) {
            Proof.removeFrom(held, row);
            proof.note('d', row);
        }

        int takeOutFrame(int home) {
            ArrayList<Constraint> going = new ArrayList<Constraint>();
            for (int i = 0; i < held.size(); i++) {
                if (held.get(i).home == home) {
                    going.add(held.get(i));
                }
            }
            for (int i = 0; i < going.size(); i++) {
                takeOut(going.get(i));
            }
            return going.size();
        }

        int heldLearnt() {
            int learnt = 0;
            for (int i = 0; i < held.size(); i++) {
                learnt += held.get(i).kind == 'l' ? 1 : 0;
            }
            return learnt;
        }
    }

    /** The eliminated variables, in the order in which they went, and the clauses that are kept aside. */
    private static final class Shelf {
        final ArrayList<Constraint> aside;
        int eliminated;
        private final Book book;
        private final IntRow order;
        private final IntRow draft;

        Shelf(Book book) {
            this.book = book;
            aside = new ArrayList<Constraint>();
            order = new IntRow();
            draft = new IntRow();
            eliminated = 0;
        }

        boolean isAway(int variable) {
            return (eliminated & bitOf(variable)) != 0;
        }

        boolean canEliminate(int variable) {
            int bit = bitOf(variable);
            int unlearnt = aside.size();
            boolean inRow = false;
            for (int i = 0; i < book.held.size(); i++) {
                Constraint row = book.held.get(i);
                inRow = inRow || !row.isClause() && (row.all() & bit) != 0;
                unlearnt += row.kind == 'l' ? 0 : 1;
            }
            ArrayList<Constraint> with = unlearntWith(bit, 0);
            ArrayList<Constraint> without = unlearntWith(0, bit);
            int coming = resolve(variable, with, without, false);
            return !inRow && coming <= with.size() + without.size() && unlearnt + coming <= MOST_UNLEARNT;
        }

        int takeAway(int variable) {
            int bit = bitOf(variable);
            int came = resolve(variable, unlearntWith(bit, 0), unlearntWith(0, bit), true);
            ArrayList<Constraint> going = new ArrayList<Constraint>();
            for (int i = 0; i < book.held.size(); i++) {
                if ((book.held.get(i).all() & bit) != 0) {
                    going.add(book.held.get(i));
                }
            }
            for (int i = 0; i < going.size(); i++) {
                Constraint row = going.get(i);
                book.takeOut(row);
                if (row.kind != 'l') {
                    row.asideWith = variable;
                    aside.add(row);
                }
            }
            eliminated |= bit;
            order.append(variable);
            return came;
        }

        private ArrayList<Constraint> unlearntWith(int positive, int negative) {
            ArrayList<Constraint> some = new ArrayList<Constraint>();
            for (int i = 0; i < book.held.size(); i++) {
                Constraint row = book.held.get(i);
                if (row.kind != 'l' && (row.positive & positive | row.negative & negative) != 0) {
                    some.add(row);
                }
            }
            return some;
        }

        /** How many resolvents there are; they are entered only if they come, as a refused call changes nothing. */
        private int resolve(int variable, ArrayList<Constraint> with, ArrayList<Constraint> without, boolean come) {
            int resolvents = 0;
            for (int i = 0; i < with.size(); i++) {
                for (int j = 0; j < without.size(); j++) {
                    if (isResolvent(variable, with.get(i), without.get(j))) {
                        resolvents++;
                        if (come) {
                            book.enter('r', 0, resolvent(variable, with.get(i), without.get(j)), 0);
                        }
                    }
                }
            }
            return resolvents;
        }

        private boolean isResolvent(int variable, Constraint first, Constraint second) {
            int positive = first.positive | second.positive;
            int negative = first.negative | second.negative;
            return (positive & negative & ~bitOf(variable)) == 0;
        }

        private int[] resolvent(int variable, Constraint first, Constraint second) {
            draft.empty();
            int has = draftNew(first, bitOf(variable));
            draftNew(second, has);
            return draft.copy();
        }

        private int draftNew(Constraint clause, int before) {
            int has = before;
            for (int i = 0; i < clause.literals.length; i++) {
                int bit = bitOf(variableOf(clause.literals[i]));
                if ((has & bit) == 0) {
                    draft.append(clause.literals[i]);
                }
                has |= bit;
            }
            return has;
        }

        void bringBackAll(int wanted) {
            bringBack(this, wanted, 0);
        }

        /** Each step down takes one variable off the shelf, so there are never more steps than variables. */
        private static void bringBack(Shelf shelf, int wanted, int depth) {
            if (depth > MOST_VARIABLES) {
                return;
            }
            for (int v = 0; v < MOST_VARIABLES; v++) {
                if ((wanted & shelf.eliminated & bitOf(v)) != 0) {
                    bringBack(shelf, shelf.restore(v), depth + 1);
                }
            }
        }

        /** Lets the clauses that were kept aside with a variable hold again, and tells the variables in them. */
        private int restore(int variable) {
            eliminated &= ~bitOf(variable);
            order.removeItem(variable);
            ArrayList<Constraint> coming = new ArrayList<Constraint>();
            for (int i = 0; i < aside.size(); i++) {
                if (aside.get(i).asideWith == variable) {
                    coming.add(aside.get(i));
                }
            }
            int inThese = 0;
            for (int i = 0; i < coming.size(); i++) {
                Constraint row = coming.get(i);
                Proof.removeFrom(aside, row);
                row.asideWith = NO_VARIABLE;
                book.holdAgain(row);
                inThese |= row.all();
            }
            return inThese;
        }

        /** Gives the eliminated variables their values, when the true ones of the others are told. */
        int completeModel(int found) {
            int yes = found & ~eliminated;
            for (int i = order.count - 1; i >= 0; i--) {
                if (needsTrue(order.at(i), yes)) {
                    yes |= bitOf(order.at(i));
                }
            }
            return yes;
        }

        private boolean needsTrue(int variable, int yes) {
            boolean needs = false;
            for (int i = 0; i < aside.size(); i++) {
                Constraint row = aside.get(i);
                needs = needs || row.asideWith == variable && row.isFalse(yes, ~yes);
            }
            return needs;
        }
    }

    /** The literals that are true, each with its level and the constraint that put it. */
    private static final class Trail {
        int count;
        int level;
        int yes;
        int no;
        int phases;
        long putCount;
        private final int[] order;
        private final int[] levels;
        private final int[] aheads;
        private final Constraint[] reasons;

        Trail() {
            order = new int[MOST_VARIABLES];
            levels = new int[MOST_VARIABLES];
            aheads = new int[MOST_VARIABLES];
            reasons = new Constraint[MOST_VARIABLES];
            count = 0;
            level = 0;
            yes = 0;
            no = 0;
            phases = 0;
            putCount = 0;
        }

        void reset() {
            cutTo(-1);
            level = 0;
        }

        boolean isTrue(int literal) {
            return ((literal > 0 ? yes : no) & bitOf(variableOf(literal))) != 0;
        }

        void place(int literal, Constraint reason) {
            int variable = variableOf(literal);
            if (variable < 0 || variable >= MOST_VARIABLES || count < 0 || count >= order.length) {
                return;
            }
            levels[variable] = level;
            aheads[variable] = yes | no;
            reasons[variable] = reason;
            order[count] = variable;
            count++;
            if (literal > 0) {
                yes |= bitOf(variable);
            } else {
                no |= bitOf(variable);
            }
        }

        /** Takes off what was put at greater levels; a value is kept as the phase when it goes. */
        void cutTo(int target) {
            for (int i = count - 1; i >= 0 && levelOf(variableAt(i)) > target; i--) {
                int bit = bitOf(variableAt(i));
                phases = (yes & bit) != 0 ? phases | bit : phases & ~bit;
                yes &= ~bit;
                no &= ~bit;
                count = i;
            }
            level = target;
        }

        /** Propagates at the present level; answers the false constraint with the lowest number, or null. */
        Constraint propagate(ArrayList<Constraint> rows) {
            Constraint broken = firstFalse(rows);
            for (int i = 0; i < MOST_VARIABLES && broken == null && putForced(rows); i++) {
                broken = firstFalse(rows);
            }
            return broken;
        }

        private Constraint firstFalse(ArrayList<Constraint> rows) {
            Constraint broken = null;
            for (int i = 0; i < rows.size() && broken == null; i++) {
                if (rows.get(i).isFalse(yes, no)) {
                    broken = rows.get(i);
                }
            }
            return broken;
        }

        private boolean putForced(ArrayList<Constraint> rows) {
            boolean isPut = false;
            for (int i = 0; i < rows.size() && !isPut; i++) {
                int literal = rows.get(i).forcedLiteral(yes, no);
                if (literal != 0) {
                    place(literal, rows.get(i));
                    putCount++;
                    isPut = true;
                }
            }
            return isPut;
        }

        int variableAt(int index) {
            return index >= 0 && index < order.length ? order[index] : 0;
        }

        int levelOf(int variable) {
            return variable >= 0 && variable < levels.length ? levels[variable] : 0;
        }

        Constraint reasonOf(int variable) {
            return variable >= 0 && variable < reasons.length ? reasons[variable] : null;
        }

        /** The variables put at a level. */
        int putAt(int wanted) {
            int some = 0;
            for (int i = 0; i < count; i++) {
                if (levelOf(variableAt(i)) == wanted) {
                    some |= bitOf(variableAt(i));
                }
            }
            return some;
        }

        /** The one of these variables that was put last, or no variable. */
        int lastOf(int some) {
            int last = NO_VARIABLE;
            for (int i = count - 1; i >= 0 && last == NO_VARIABLE; i--) {
                if ((some & bitOf(variableAt(i))) != 0) {
                    last = variableAt(i);
                }
            }
            return last;
        }

        /** The variables of the other literals of the clause by which a variable was put. */
        int causesOf(int variable) {
            Constraint reason = reasonOf(variable);
            if (reason == null || variable < 0 || variable >= aheads.length) {
                return 0;
            }
            return reason.causes(yes, no, aheads[variable]);
        }

        /** Whether a constraint put a literal that is on the trail. */
        boolean leansOn(Constraint row) {
            boolean leans = false;
            for (int i = 0; i < count; i++) {
                leans = leans || reasonOf(variableAt(i)) == row;
            }
            return leans;
        }
    }

    /**
     * Finds the clause that a conflict teaches. All literals of that clause are false on the trail as long as
     * it is worked on, so that its variables alone tell it.
     */
    private static final class Learner {
        int[] literals;
        int home;
        int spread;
        int backLevel;
        private final Trail trail;
        private final long[] activities;
        private final ArrayList<Constraint> used;
        private int clause;
        private int seen;
        private int zeros;
        private int leftZeros;

        Learner(Trail trail) {
            this.trail = trail;
            activities = new long[MOST_VARIABLES];
            used = new ArrayList<Constraint>();
            literals = new int[0];
            home = 0;
            spread = 0;
            backLevel = 0;
            clause = 0;
            seen = 0;
            zeros = 0;
            leftZeros = 0;
        }

        void learnFrom(Constraint conflict) {
            begin(conflict);
            replaceLast();
            leaveOut();
            followZeros();
            writeClause();
            countUses();
            raiseActivities();
        }

        private void begin(Constraint conflict) {
            used.clear();
            home = 0;
            clause = 0;
            seen = 0;
            leftZeros = 0;
            zeros = trail.putAt(0);
            takeIn(conflict.causes(trail.yes, trail.no, trail.yes | trail.no));
            use(conflict);
        }

        private void takeIn(int causes) {
            leftZeros |= causes & zeros;
            clause |= causes & ~zeros;
            seen |= clause;
        }

        private void use(Constraint row) {
            raiseHome(row);
            boolean isIn = false;
            for (int i = 0; i < used.size(); i++) {
                isIn = isIn || used.get(i) == row;
            }
            if (!isIn) {
                used.add(row);
            }
        }

        private void raiseHome(Constraint row) {
            home = Math.max(home, row.home);
        }

        private void replaceLast() {
            int present = trail.putAt(trail.level);
            for (int i = 0; i < MOST_VARIABLES && Integer.bitCount(clause & present) > 1; i++) {
                int last = trail.lastOf(clause & present);
                Constraint reason = trail.reasonOf(last);
                if (reason != null) {
                    clause &= ~bitOf(last);
                    takeIn(trail.causesOf(last));
                    use(reason);
                }
            }
        }

        /** All at once: each literal is looked at beside the whole clause, what goes is gathered first. */
        private void leaveOut() {
            int present = trail.putAt(trail.level);
            int going = 0;
            for (int v = 0; v < MOST_VARIABLES; v++) {
                Constraint reason = trail.reasonOf(v);
                if ((clause & ~present & bitOf(v)) != 0 && reason != null) {
                    int causes = trail.causesOf(v);
                    if ((causes & ~zeros & ~clause) == 0) {
                        going |= bitOf(v);
                        leftZeros |= causes & zeros;
                        raiseHome(reason);
                    }
                }
            }
            clause &= ~going;
        }

        /** What put a literal leans on what is ahead of it alone: one way back over the trail meets all. */
        private void followZeros() {
            for (int i = trail.count - 1; i >= 0; i--) {
                int variable = trail.variableAt(i);
                Constraint reason = trail.reasonOf(variable);
                if ((leftZeros & bitOf(variable)) != 0 && reason != null) {
                    raiseHome(reason);
                    leftZeros |= trail.causesOf(variable);
                }
            }
        }

        private void writeClause() {
            int[] row = new int[Integer.bitCount(clause)];
            int at = 0;
            int levels = 0;
            backLevel = 0;
            for (int i = trail.count - 1; i >= 0; i--) {
                int variable = trail.variableAt(i);
                if ((clause & bitOf(variable)) != 0 && at < row.length) {
                    row[at] = (trail.yes & bitOf(variable)) != 0 ? -variable - 1 : variable + 1;
                    backLevel = at == 0 ? 0 : Math.max(backLevel, trail.levelOf(variable));
                    levels |= 1 << trail.levelOf(variable);
                    at++;
                }
            }
            literals = row;
            spread = Integer.bitCount(levels);
        }

        private void countUses() {
            for (int i = 0; i < used.size(); i++) {
                used.get(i).uses++;
            }
        }

        private void raiseActivities() {
            for (int v = 0; v < activities.length; v++) {
                if ((seen & bitOf(v)) != 0) {
                    activities[v] += ACTIVITY_STEP;
                }
                activities[v] -= activities[v] / ACTIVITY_PART;
            }
        }

        long activityAt(int variable) {
            return variable >= 0 && variable < activities.length ? activities[variable] : 0;
        }

        /** The most active one of these variables, of several the lowest-numbered one, or no variable. */
        int mostActive(int open) {
            int best = NO_VARIABLE;
            for (int v = 0; v < MOST_VARIABLES; v++) {
                if ((open & bitOf(v)) != 0 && (best == NO_VARIABLE || activityAt(v) > activityAt(best))) {
                    best = v;
                }
            }
            return best;
        }
    }

    /** A search, and the figures of all searches. */
    private static final class Search {
        final Trail trail;
        final Learner learner;
        int found;
        int conflictCount;
        int decisionCount;
        int restartCount;
        int forgottenCount;
        int learntEver;
        long spreadsEver;
        private final Book book;
        private final int[] lastSpreads;
        private int learntHere;
        private int spreadsHere;
        private int sinceRestart;

        Search(Book book) {
            Trail shared = new Trail();
            this.book = book;
            trail = shared;
            learner = new Learner(shared);
            lastSpreads = new int[LAST_SPREADS];
            found = 0;
            conflictCount = 0;
            decisionCount = 0;
            restartCount = 0;
            forgottenCount = 0;
            learntEver = 0;
            spreadsEver = 0;
            learntHere = 0;
            spreadsHere = 0;
            sinceRestart = 0;
        }

        /** Searches over these variables; with the answer 'y', the true ones are found. */
        char run(int budget, int open, IntRow assumed) {
            trail.reset();
            learntHere = 0;
            spreadsHere = 0;
            sinceRestart = 0;
            char result = NO_ANSWER;
            for (int step = 0; step < FAR && result == NO_ANSWER; step++) {
                Constraint broken = trail.propagate(book.held);
                result = broken != null ? meetConflict(broken, budget) : goOn(open, assumed);
            }
            found = trail.yes;
            trail.reset();
            return result == NO_ANSWER ? '?' : result;
        }

        private char meetConflict(Constraint broken, int budget) {
            if (trail.level == 0) {
                return 'n';
            }
            conflictCount++;
            learner.learnFrom(broken);
            trail.cutTo(learner.backLevel);
            Constraint learnt = enterLearnt();
            if (learntHere >= budget) {
                return '?';
            }
            if (isRestartDue()) {
                restartCount++;
                sinceRestart = 0;
                trail.cutTo(0);
            }
            if (book.heldLearnt() > MOST_LEARNT) {
                forget(learnt);
            }
            return NO_ANSWER;
        }

        private Constraint enterLearnt() {
            Constraint learnt = book.enter('l', learner.home, learner.literals, 0);
            learnt.spread = learner.spread;
            learntEver++;
            spreadsEver += learnt.spread;
            int slot = Math.floorMod(learntHere, LAST_SPREADS);
            if (slot >= 0 && slot < lastSpreads.length) {
                lastSpreads[slot] = learnt.spread;
            }
            learntHere++;
            spreadsHere += learnt.spread;
            sinceRestart++;
            return learnt;
        }

        private boolean isRestartDue() {
            if (sinceRestart < LAST_SPREADS || learntHere < 1) {
                return false;
            }
            int last = 0;
            for (int i = 0; i < lastSpreads.length; i++) {
                last += lastSpreads[i];
            }
            return last > LAST_SPREADS * (spreadsHere / learntHere);
        }

        private void forget(Constraint justLearnt) {
            Constraint worst = null;
            for (int i = 0; i < book.held.size(); i++) {
                Constraint row = book.held.get(i);
                boolean isOld = row.kind == 'l' && row != justLearnt && !trail.leansOn(row);
                if (isOld && row.spread > SMALL_SPREAD && (worst == null || isWorse(row, worst))) {
                    worst = row;
                }
            }
            if (worst != null) {
                book.takeOut(worst);
                forgottenCount++;
            }
        }

        private boolean isWorse(Constraint row, Constraint other) {
            return row.spread > other.spread || row.spread == other.spread && row.uses < other.uses;
        }

        private char goOn(int open, IntRow assumed) {
            if (trail.level < assumed.count) {
                return takeAssumption(assumed.at(trail.level));
            }
            int choice = learner.mostActive(open & ~(trail.yes | trail.no));
            if (choice == NO_VARIABLE) {
                return 'y';
            }
            decisionCount++;
            trail.level++;
            trail.place((trail.phases & bitOf(choice)) != 0 ? choice + 1 : -choice - 1, null);
            return NO_ANSWER;
        }

        private char takeAssumption(int literal) {
            if (trail.isTrue(-literal)) {
                return 'n';
            }
            trail.level++;
            if (!trail.isTrue(literal)) {
                trail.place(literal, null);
            }
            return NO_ANSWER;
        }
    }

    /** Tries all values at once: 64 assignments are the bits of one long. */
    private static final class Trial {
        private static final int BITS = 6;
        private static final long[] PATTERNS = {
            0xAAAAAAAAAAAAAAAAL, 0xCCCCCCCCCCCCCCCCL, 0xF0F0F0F0F0F0F0F0L,
            0xFF00FF00FF00FF00L, 0xFFFF0000FFFF0000L, 0xFFFFFFFF00000000L};

        private final long[] words;
        private final long[] atLeast;
        private int wordCount;

        Trial() {
            words = new long[1 << (MOST_VARIABLES - BITS)];
            atLeast = new long[MOST_BOUND + 2];
            wordCount = 0;
        }

        void begin(int variables) {
            wordCount = variables <= BITS ? 1 : 1 << (variables - BITS);
            long all = variables < BITS ? (1L << (1 << variables)) - 1 : -1L;
            for (int w = 0; w < words.length; w++) {
                words[w] = w < wordCount ? all : 0;
            }
        }

        void keepAll(ArrayList<Constraint> rows) {
            for (int i = 0; i < rows.size(); i++) {
                for (int w = 0; w < wordCount && w < words.length; w++) {
                    words[w] &= met(rows.get(i), w);
                }
            }
        }

        private long met(Constraint row, int w) {
            if (row.kind == 'm') {
                return metBound(row, w);
            }
            long some = 0;
            for (int i = 0; i < row.literals.length; i++) {
                long word = wordOf(row.literals[i], w);
                some = row.kind == 'x' ? some ^ word : some | word;
            }
            return row.kind == 'x' && row.limit == 0 ? ~some : some;
        }

        private long metBound(Constraint row, int w) {
            for (int k = 0; k < atLeast.length; k++) {
                atLeast[k] = k == 0 ? -1L : 0;
            }
            for (int i = 0; i < row.literals.length; i++) {
                long word = wordOf(row.literals[i], w);
                for (int k = atLeast.length - 1; k > 0; k--) {
                    atLeast[k] |= atLeast[k - 1] & word;
                }
            }
            int tooMany = row.limit + 1;
            return tooMany >= 0 && tooMany < atLeast.length ? ~atLeast[tooMany] : -1L;
        }

        private long wordOf(int literal, int w) {
            int variable = variableOf(literal);
            long word = 0;
            if (variable >= 0 && variable < PATTERNS.length) {
                word = PATTERNS[variable];
            } else {
                word = (w >> (variable - BITS) & 1) != 0 ? -1L : 0;
            }
            return literal > 0 ? word : ~word;
        }

        int models() {
            int all = 0;
            for (int w = 0; w < words.length; w++) {
                all += Long.bitCount(words[w]);
            }
            return all;
        }

        /** Whether there is a model with those assumptions whose indices are the bits of a number. */
        boolean hasModel(IntRow assumed, int indices) {
            boolean has = false;
            for (int w = 0; w < words.length && !has; w++) {
                long left = words[w];
                for (int i = 0; i < assumed.count; i++) {
                    left &= (indices >> i & 1) != 0 ? wordOf(assumed.at(i), w) : -1L;
                }
                has = left != 0;
            }
            return has;
        }

        int smallCore(IntRow assumed) {
            int left = (1 << assumed.count) - 1;
            for (int i = 0; i < assumed.count; i++) {
                if (!hasModel(assumed, left & ~(1 << i))) {
                    left &= ~(1 << i);
                }
            }
            return left;
        }
    }
}
