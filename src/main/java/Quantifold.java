import java.util.NoSuchElementException;

/**
 * A solver of formulas in which all and some take turns. DOC.md says what each call answers.
 *
 * <p>Sets of literals are bits of an int: the variable v has the bit v - 1, its opposite the bit v + 11;
 * sets of variables are the lower twelve of them. Sets of clauses are bits of a long, by their numbers.
 * So no call but the constructor makes rows.
 */
public final class Quantifold {
    private static final int MOST_BLOCKS = 6;
    private static final int MOST_VARIABLES = 12;
    private static final int MOST_TYPED = 8;
    private static final int MOST_CLAUSES = 40;
    private static final int MOST_TERMS = 20;
    private static final int MOST_BUDGET = 9999;
    private static final int MOST_WEIGHT = 99;
    private static final int ALL_VALUES = 1 << MOST_VARIABLES;
    private static final int EVERY_VARIABLE = ALL_VALUES - 1;
    private static final int CONFLICT = 1 << (2 * MOST_VARIABLES);
    private static final char SOME = 'e';
    private static final char ALL = 'a';
    private static final char UNKNOWN = '?';
    private static final char NEITHER = '-';

    private final Prefix prefix;
    private final ClauseRows rows;
    private final TermRows cubes;
    private final Assumptions assumptions;
    private final Wishes wishes;
    private final Play play;
    private int typed;
    private boolean isFar;

    public Quantifold() {
        prefix = new Prefix();
        rows = new ClauseRows();
        cubes = new TermRows();
        assumptions = new Assumptions();
        wishes = new Wishes();
        play = new Play();
    }

    // prefix and clauses

    public int block(char kind) throws IllegalArgumentException, IllegalStateException {
        if (!isSide(kind)) {
            throw new IllegalArgumentException("no such kind");
        }
        if (prefix.blockCount >= MOST_BLOCKS) {
            throw new IllegalStateException("there are 6 blocks");
        }
        play.stop();
        return prefix.addBlock(kind == SOME);
    }

    public int variable(int block) throws IndexOutOfBoundsException, IllegalStateException {
        if (!prefix.hasBlock(block)) {
            throw new IndexOutOfBoundsException("no such block");
        }
        if (prefix.variableCount >= MOST_VARIABLES) {
            throw new IllegalStateException("there are 12 variables");
        }
        play.stop();
        return prefix.addVariable(block);
    }

    public char kind(int variable) throws IndexOutOfBoundsException {
        if (!prefix.hasVariable(variable)) {
            throw new IndexOutOfBoundsException("no such variable");
        }
        return side(prefix.isSome(Literals.bitOf(variable)));
    }

    public int type(int literal)
            throws IllegalArgumentException, UnsupportedOperationException, IllegalStateException {
        if (!prefix.hasLiteral(literal)) {
            throw new IllegalArgumentException("no such variable");
        }
        int bit = Literals.bitOf(literal);
        if ((Literals.variablesOf(typed) & Literals.variablesOf(bit)) != 0) {
            throw new UnsupportedOperationException("its variable is typed");
        }
        if (Integer.bitCount(typed) >= MOST_TYPED) {
            throw new IllegalStateException("there are 8 literals");
        }
        typed |= bit;
        return Integer.bitCount(typed);
    }

    public int wipe() {
        int before = Integer.bitCount(typed);
        typed = 0;
        return before;
    }

    public int clause() throws IllegalStateException {
        if (rows.isFull()) {
            throw new IllegalStateException("there were 40 clauses");
        }
        play.stop();
        cubes.clear();
        int number = rows.tell(typed);
        typed = 0;
        return number;
    }

    public int drop(int clause) throws IndexOutOfBoundsException, UnsupportedOperationException {
        if (!rows.has(clause)) {
            throw new IndexOutOfBoundsException("no such clause");
        }
        if (!rows.isTold(clause)) {
            throw new UnsupportedOperationException("a made clause");
        }
        play.stop();
        return rows.remove(clause);
    }

    public int clauses() {
        return Long.bitCount(rows.matrix());
    }

    public int size(int clause, boolean isReduced) throws IndexOutOfBoundsException {
        if (!rows.has(clause)) {
            throw new IndexOutOfBoundsException("no such clause");
        }
        return Integer.bitCount(clauseSet(clause, isReduced));
    }

    public int literal(int clause, boolean isReduced, int index)
            throws IndexOutOfBoundsException, NoSuchElementException {
        if (!rows.has(clause)) {
            throw new IndexOutOfBoundsException("no such clause");
        }
        int found = Literals.pick(clauseSet(clause, isReduced), index);
        if (found == 0) {
            throw new NoSuchElementException("no such literal");
        }
        return found;
    }

    public boolean holds(int values) {
        return rows.verdict(rows.matrix(), Literals.ofValues(values, EVERY_VARIABLE)) > 0;
    }

    // the winner

    public int assume(int literal) throws IllegalArgumentException, UnsupportedOperationException {
        if (!prefix.hasLiteral(literal)) {
            throw new IllegalArgumentException("no such variable");
        }
        int bit = Literals.bitOf(literal);
        if (!prefix.isOfFirstSome(bit) || assumptions.tells(bit)) {
            throw new UnsupportedOperationException("not to be assumed");
        }
        return assumptions.add(bit);
    }

    public int release() {
        return assumptions.clear();
    }

    public char winner() {
        return side(someWins(assumptions.all()));
    }

    public int positions() {
        return Math.abs(Search.run(prefix, rows, rows.matrix(), assumptions.all()));
    }

    public char solve(int budget) throws IllegalArgumentException {
        if (budget < 1 || budget > MOST_BUDGET) {
            throw new IllegalArgumentException("the budget is not 1 to 9999");
        }
        int counted = Search.run(prefix, rows, rows.matrix(), assumptions.all());
        return Math.abs(counted) > budget ? UNKNOWN : side(counted > 0);
    }

    public int core() throws UnsupportedOperationException {
        if (someWins(assumptions.all())) {
            throw new UnsupportedOperationException("e wins");
        }
        return Integer.bitCount(neededAssumptions());
    }

    public int coreAt(int index) throws UnsupportedOperationException, NoSuchElementException {
        if (someWins(assumptions.all())) {
            throw new UnsupportedOperationException("e wins");
        }
        int found = assumptions.pickOf(neededAssumptions(), index);
        if (found == 0) {
            throw new NoSuchElementException("no such literal");
        }
        return found;
    }

    public boolean conflicts() {
        return (Propagation.run(prefix, rows, assumptions.all()) & CONFLICT) != 0;
    }

    public int value(int variable) throws IndexOutOfBoundsException {
        if (!prefix.hasVariable(variable)) {
            throw new IndexOutOfBoundsException("no such variable");
        }
        return Literals.valueIn(Propagation.run(prefix, rows, assumptions.all()), variable);
    }

    public int weight(int literal, int weight) throws IllegalArgumentException, UnsupportedOperationException {
        if (!prefix.hasLiteral(literal) || weight < 0 || weight > MOST_WEIGHT) {
            throw new IllegalArgumentException("no such variable or weight");
        }
        if (!prefix.isOfFirstSome(Literals.bitOf(literal))) {
            throw new UnsupportedOperationException("not of the block 0, or this is not of e");
        }
        return wishes.change(literal, weight);
    }

    public int best() throws NoSuchElementException {
        int sum = prefix.isFirstSome() ? bestSum(prefix.firstMembers()) : -1;
        if (sum < 0) {
            throw new NoSuchElementException("no values by which e wins");
        }
        return sum;
    }

    // proofs

    public boolean far(boolean is) {
        boolean before = isFar;
        isFar = is;
        return before;
    }

    public int resolve(int clause, int other, int variable)
            throws IndexOutOfBoundsException, UnsupportedOperationException, IllegalStateException {
        if (!rows.has(clause) || !rows.has(other) || !prefix.hasVariable(variable)) {
            throw new IndexOutOfBoundsException("no such clause or variable");
        }
        int first = clauseSet(clause, true);
        int second = clauseSet(other, true);
        int pivot = Literals.bitOf(variable);
        if (!Proofs.canResolveClauses(prefix, first, second, pivot, isFar)) {
            throw new UnsupportedOperationException("they cannot be resolved by it");
        }
        if (rows.isFull()) {
            throw new IllegalStateException("there were 40 clauses");
        }
        return rows.make(prefix.reduce(Proofs.others(first, second, pivot), true), clause, other);
    }

    public int term() throws UnsupportedOperationException, IllegalStateException {
        if (!rows.areAllMet(typed)) {
            throw new UnsupportedOperationException("some clause has no literal of it");
        }
        if (cubes.isFull()) {
            throw new IllegalStateException("there are 20 terms");
        }
        int number = cubes.add(typed);
        typed = 0;
        return number;
    }

    public int terms() {
        return cubes.count;
    }

    public int termSize(int term, boolean isReduced) throws IndexOutOfBoundsException {
        if (!cubes.has(term)) {
            throw new IndexOutOfBoundsException("no such term");
        }
        return Integer.bitCount(termSet(term, isReduced));
    }

    public int termLiteral(int term, boolean isReduced, int index)
            throws IndexOutOfBoundsException, NoSuchElementException {
        if (!cubes.has(term)) {
            throw new IndexOutOfBoundsException("no such term");
        }
        int found = Literals.pick(termSet(term, isReduced), index);
        if (found == 0) {
            throw new NoSuchElementException("no such literal");
        }
        return found;
    }

    public int resolveTerms(int term, int other, int variable)
            throws IndexOutOfBoundsException, UnsupportedOperationException, IllegalStateException {
        if (!cubes.has(term) || !cubes.has(other) || !prefix.hasVariable(variable)) {
            throw new IndexOutOfBoundsException("no such term or variable");
        }
        int first = termSet(term, true);
        int second = termSet(other, true);
        int pivot = Literals.bitOf(variable);
        if (!Proofs.canResolveTerms(prefix, first, second, pivot)) {
            throw new UnsupportedOperationException("they cannot be resolved by it");
        }
        if (cubes.isFull()) {
            throw new IllegalStateException("there are 20 terms");
        }
        return cubes.add(prefix.reduce(Proofs.others(first, second, pivot), false));
    }

    public char proved() {
        if (isAllProved()) {
            return ALL;
        }
        return isSomeProved() ? SOME : NEITHER;
    }

    // looks

    public boolean depends(int variable, int other) throws IndexOutOfBoundsException, UnsupportedOperationException {
        if (!prefix.hasVariable(variable) || !prefix.hasVariable(other)) {
            throw new IndexOutOfBoundsException("no such variable");
        }
        int from = Literals.bitOf(other);
        int to = Literals.bitOf(variable);
        if (!prefix.isSome(to) || prefix.isSome(from) || (prefix.behind(from) & to) == 0) {
            throw new UnsupportedOperationException("not of e behind one of a");
        }
        return Looks.isLinked(prefix, rows, from, to);
    }

    public boolean isBlocked(int clause, int literal) throws IndexOutOfBoundsException, UnsupportedOperationException {
        if (!rows.has(clause)) {
            throw new IndexOutOfBoundsException("no such clause");
        }
        int bit = prefix.hasLiteral(literal) ? Literals.bitOf(literal) : 0;
        if (!rows.isTold(clause) || (rows.setOf(clause) & bit) == 0 || !prefix.isSome(bit)) {
            throw new UnsupportedOperationException("a made clause, or no literal of e in it");
        }
        return Looks.isBlockedBy(prefix, rows, clause, bit);
    }

    public int held(int clause) throws IndexOutOfBoundsException, UnsupportedOperationException {
        if (!rows.has(clause)) {
            throw new IndexOutOfBoundsException("no such clause");
        }
        if (!rows.isTold(clause)) {
            throw new UnsupportedOperationException("a made clause");
        }
        return Looks.holderOf(rows, clause);
    }

    public int expands(int variable) throws IndexOutOfBoundsException, UnsupportedOperationException {
        if (!prefix.hasVariable(variable)) {
            throw new IndexOutOfBoundsException("no such variable");
        }
        int bit = Literals.bitOf(variable);
        int behind = prefix.behind(bit);
        if (prefix.isSome(bit) || (behind & ~prefix.someVariables) != 0) {
            throw new UnsupportedOperationException("not the last of a");
        }
        return Looks.expandedCount(rows, bit, behind);
    }

    // play and sums

    public int begin(char side) throws IllegalArgumentException {
        if (!isSide(side)) {
            throw new IllegalArgumentException("no such side");
        }
        play.start(side == SOME);
        return play.goOn(prefix, rows);
    }

    public int move(boolean value) throws UnsupportedOperationException {
        if (!play.isOn || play.isOver(prefix)) {
            throw new UnsupportedOperationException("no play goes on, or all have values");
        }
        play.take(prefix.firstFree(play.truths), value);
        return play.goOn(prefix, rows);
    }

    public int played(int variable) throws IndexOutOfBoundsException, UnsupportedOperationException {
        if (!prefix.hasVariable(variable)) {
            throw new IndexOutOfBoundsException("no such variable");
        }
        if (!play.isOn) {
            throw new UnsupportedOperationException("no play goes on");
        }
        return Literals.valueIn(play.truths, variable);
    }

    public char won() throws UnsupportedOperationException {
        if (!play.isOn || !play.isOver(prefix)) {
            throw new UnsupportedOperationException("no play goes on, or not all have values");
        }
        return side(play.isWonBySome(rows));
    }

    public long checksum() {
        long sum = 7;
        for (int number = 0; number < rows.count; number++) {
            if (rows.has(number)) {
                sum = 31 * sum + Integer.bitCount(clauseSet(number, true));
            }
        }
        for (int number = 0; number < cubes.count; number++) {
            sum = 31 * sum + Integer.bitCount(termSet(number, true));
        }
        return 31 * sum + assumptions.count;
    }

    public float trueShare() {
        int allValues = 1 << prefix.variableCount;
        int trueOnes = 0;
        for (int values = 0; values < allValues; values++) {
            if (holds(values)) {
                trueOnes++;
            }
        }
        return (float) trueOnes / (float) allValues;
    }

    public double meanSize() throws NoSuchElementException {
        long matrix = rows.matrix();
        if (matrix == 0) {
            throw new NoSuchElementException("no clauses");
        }
        int sum = 0;
        for (int number = 0; number < rows.count; number++) {
            if (ClauseRows.isIn(matrix, number)) {
                sum += Integer.bitCount(rows.setOf(number));
            }
        }
        return (double) sum / (double) Long.bitCount(matrix);
    }

    public boolean isSound() {
        boolean toSome = someWins(0);
        return isProofSound(toSome) && areLooksSound(toSome) && play.isSoundFor(prefix, rows, toSome);
    }

    // what several calls of the face need

    private static boolean isSide(char side) {
        return side == SOME || side == ALL;
    }

    private static char side(boolean isSome) {
        return isSome ? SOME : ALL;
    }

    private int clauseSet(int number, boolean isReduced) {
        int set = rows.setOf(number);
        return isReduced ? prefix.reduce(set, true) : set;
    }

    private int termSet(int number, boolean isReduced) {
        int set = cubes.setOf(number);
        return isReduced ? prefix.reduce(set, false) : set;
    }

    private boolean someWins(int truths) {
        return Search.run(prefix, rows, rows.matrix(), truths) > 0;
    }

    private int neededAssumptions() {
        int needed = assumptions.all();
        for (int index = 0; index < assumptions.count; index++) {
            int without = needed & ~assumptions.bitAt(index);
            if (!someWins(without)) {
                needed = without;
            }
        }
        return needed;
    }

    private int bestSum(int wishable) {
        int highest = -1;
        for (int values = 0; values < ALL_VALUES; values++) {
            if ((values & ~wishable) != 0) {
                continue;
            }
            int truths = Literals.ofValues(values, wishable);
            int sum = wishes.sumOf(truths);
            if (sum > highest && someWins(truths)) {
                highest = sum;
            }
        }
        return highest;
    }

    private boolean isAllProved() {
        for (int number = 0; number < rows.count; number++) {
            if (rows.has(number) && clauseSet(number, true) == 0) {
                return true;
            }
        }
        return false;
    }

    private boolean isSomeProved() {
        for (int number = 0; number < cubes.count; number++) {
            if (termSet(number, true) == 0) {
                return true;
            }
        }
        return false;
    }

    private boolean isProofSound(boolean toSome) {
        boolean isForAll = isAllProved();
        boolean isForSome = isSomeProved();
        return !(isForAll && isForSome) && !(isForAll && toSome) && !(isForSome && !toSome);
    }

    private boolean areLooksSound(boolean toSome) {
        long matrix = rows.matrix();
        for (int number = 0; number < rows.count; number++) {
            if (ClauseRows.isIn(matrix, number) && Looks.isNeedless(prefix, rows, number)) {
                long others = matrix & ~(1L << number);
                if (Search.run(prefix, rows, others, 0) > 0 != toSome) {
                    return false;
                }
            }
        }
        return true;
    }

    /** Literals and sets of them, as bits. */
    private static final class Literals {
        /** The place of a literal whose variable is there, in a row of all literals. */
        static int placeOf(int literal) {
            return literal > 0 ? literal - 1 : MOST_VARIABLES - 1 - literal;
        }

        static int bitOf(int literal) {
            return 1 << placeOf(literal);
        }

        static int opposites(int set) {
            return (set & EVERY_VARIABLE) << MOST_VARIABLES | set >>> MOST_VARIABLES & EVERY_VARIABLE;
        }

        static int variablesOf(int set) {
            return (set | set >>> MOST_VARIABLES) & EVERY_VARIABLE;
        }

        static int bothOf(int variables) {
            return variables | variables << MOST_VARIABLES;
        }

        static int twiceIn(int set) {
            return set & set >>> MOST_VARIABLES & EVERY_VARIABLE;
        }

        static int ofValues(int values, int variables) {
            return values & variables | (~values & variables) << MOST_VARIABLES;
        }

        /** The number of the variable that has this one bit. */
        static int variableOf(int bit) {
            return Integer.bitCount(bit - 1) + 1;
        }

        static int valueIn(int truths, int variable) {
            if ((truths & bitOf(variable)) != 0) {
                return 1;
            }
            return (truths & bitOf(-variable)) != 0 ? 0 : -1;
        }

        /** The literal at an index, one ahead of its opposite; 0, which is no literal, if there is none. */
        static int pick(int set, int index) {
            int left = index;
            for (int variable = 1; variable <= MOST_VARIABLES; variable++) {
                if ((set & bitOf(variable)) != 0) {
                    if (left == 0) {
                        return variable;
                    }
                    left--;
                }
                if ((set & bitOf(-variable)) != 0) {
                    if (left == 0) {
                        return -variable;
                    }
                    left--;
                }
            }
            return 0;
        }
    }

    /** The blocks with their variables. */
    private static final class Prefix {
        private final int[] members = new int[MOST_BLOCKS];
        private int blockCount;
        private int someBlocks;
        private int variableCount;
        private int someVariables;

        int addBlock(boolean isSome) {
            if (isSome) {
                someBlocks |= 1 << blockCount;
            }
            blockCount++;
            return blockCount - 1;
        }

        int addVariable(int number) {
            if (number < 0 || number >= members.length) {
                return 0;
            }
            int bit = 1 << variableCount;
            members[number] |= bit;
            if (isSomeBlock(number)) {
                someVariables |= bit;
            }
            variableCount++;
            return variableCount;
        }

        boolean hasBlock(int number) {
            return number >= 0 && number < blockCount;
        }

        boolean hasVariable(int number) {
            return number >= 1 && number <= variableCount;
        }

        boolean hasLiteral(int number) {
            return hasVariable(number) || hasVariable(-number);
        }

        boolean isSome(int set) {
            return (Literals.variablesOf(set) & someVariables) != 0;
        }

        boolean isFirstSome() {
            return isSomeBlock(0);
        }

        int firstMembers() {
            return members.length > 0 ? members[0] : 0;
        }

        boolean isOfFirstSome(int bit) {
            return isFirstSome() && (firstMembers() & Literals.variablesOf(bit)) != 0;
        }

        /** The variables behind the one that has this bit. */
        int behind(int bit) {
            int found = 0;
            for (int number = members.length - 1; number >= 0; number--) {
                if ((members[number] & bit) != 0) {
                    return found;
                }
                found |= members[number];
            }
            return 0;
        }

        /** The bit of the first variable without a value, 0 if all have one. */
        int firstFree(int truths) {
            int valued = Literals.variablesOf(truths);
            for (int number = 0; number < members.length; number++) {
                int free = members[number] & ~valued;
                if (free != 0) {
                    return free & -free;
                }
            }
            return 0;
        }

        /** A clause loses its last ones of 'a', a term those of 'e'. */
        int reduce(int set, boolean isClause) {
            int rest = set;
            for (int number = members.length - 1; number >= 0; number--) {
                int both = Literals.bothOf(members[number]);
                if (isSomeBlock(number) != isClause) {
                    rest &= ~both;
                } else if ((rest & both) != 0) {
                    return rest;
                }
            }
            return rest;
        }

        private boolean isSomeBlock(int number) {
            return (someBlocks >>> number & 1) != 0;
        }
    }

    /** All clauses by their numbers, which are not used again. */
    private static final class ClauseRows {
        private final int[] sets = new int[MOST_CLAUSES];
        /** From which told clauses each comes, so that one look tells what goes with a dropped one. */
        private final long[] origins = new long[MOST_CLAUSES];
        private int count;
        private long there;
        private long told;

        static boolean isIn(long numbers, int number) {
            return (numbers >>> number & 1L) != 0;
        }

        boolean isFull() {
            return count >= MOST_CLAUSES;
        }

        boolean has(int number) {
            return number >= 0 && number < count && isIn(there, number);
        }

        boolean isTold(int number) {
            return has(number) && isIn(told, number);
        }

        long matrix() {
            return there & told;
        }

        int setOf(int number) {
            return number >= 0 && number < sets.length ? sets[number] : 0;
        }

        int tell(int set) {
            told |= 1L << count;
            return add(set, 1L << count);
        }

        int make(int set, int first, int second) {
            return add(set, originOf(first) | originOf(second));
        }

        /** Returns how many go. */
        int remove(int number) {
            int gone = 0;
            for (int other = 0; other < origins.length; other++) {
                if (isIn(there, other) && isIn(origins[other], number)) {
                    there &= ~(1L << other);
                    gone++;
                }
            }
            return gone;
        }

        /** 1 if each clause has a true literal, -1 if some has false ones alone, otherwise 0. */
        int verdict(long matrix, int truths) {
            int falses = Literals.opposites(truths);
            int verdict = 1;
            for (int number = 0; number < count && number < sets.length; number++) {
                if (!isIn(matrix, number) || (sets[number] & truths) != 0) {
                    continue;
                }
                if ((sets[number] & ~falses) == 0) {
                    return -1;
                }
                verdict = 0;
            }
            return verdict;
        }

        /** Whether each clause of the matrix has a literal of the set. */
        boolean areAllMet(int set) {
            long matrix = matrix();
            for (int number = 0; number < count && number < sets.length; number++) {
                if (isIn(matrix, number) && (sets[number] & set) == 0) {
                    return false;
                }
            }
            return true;
        }

        private long originOf(int number) {
            return number >= 0 && number < origins.length ? origins[number] : 0;
        }

        private int add(int set, long origin) {
            if (count < 0 || count >= sets.length || count >= origins.length) {
                return -1;
            }
            sets[count] = set;
            origins[count] = origin;
            there |= 1L << count;
            count++;
            return count - 1;
        }
    }

    /** The terms by their numbers. */
    private static final class TermRows {
        private final int[] sets = new int[MOST_TERMS];
        private int count;

        boolean isFull() {
            return count >= MOST_TERMS;
        }

        boolean has(int number) {
            return number >= 0 && number < count;
        }

        int setOf(int number) {
            return number >= 0 && number < sets.length ? sets[number] : 0;
        }

        int add(int set) {
            if (count < 0 || count >= sets.length) {
                return -1;
            }
            sets[count] = set;
            count++;
            return count - 1;
        }

        void clear() {
            count = 0;
        }
    }

    /** What is assumed, in the order of assuming. */
    private static final class Assumptions {
        private final int[] bits = new int[MOST_VARIABLES];
        private int count;
        private int set;

        int all() {
            return set;
        }

        int bitAt(int index) {
            return index >= 0 && index < bits.length ? bits[index] : 0;
        }

        boolean tells(int bit) {
            return (Literals.variablesOf(set) & Literals.variablesOf(bit)) != 0;
        }

        int add(int bit) {
            if (count >= 0 && count < bits.length) {
                bits[count] = bit;
                count++;
                set |= bit;
            }
            return count;
        }

        int clear() {
            int before = count;
            count = 0;
            set = 0;
            return before;
        }

        /** The literal at an index among those that are in a set, 0 if there is none. */
        int pickOf(int needed, int index) {
            int left = index;
            for (int at = 0; at < count; at++) {
                if ((needed & bitAt(at)) == 0) {
                    continue;
                }
                if (left == 0) {
                    return Literals.pick(bitAt(at), 0);
                }
                left--;
            }
            return 0;
        }
    }

    /** The weights of literals. */
    private static final class Wishes {
        private final int[] weights = new int[2 * MOST_VARIABLES];

        /** Returns the weight before. */
        int change(int number, int wanted) {
            int place = Literals.placeOf(number);
            if (place < 0 || place >= weights.length) {
                return 0;
            }
            int before = weights[place];
            weights[place] = wanted;
            return before;
        }

        int sumOf(int truths) {
            int sum = 0;
            for (int place = 0; place < weights.length; place++) {
                if ((truths >>> place & 1) != 0) {
                    sum += weights[place];
                }
            }
            return sum;
        }
    }

    /** The search for the winner. */
    private static final class Search {
        /** Returns how many positions it counts, less than 0 if 'a' wins. */
        static int run(Prefix prefix, ClauseRows rows, long matrix, int truths) {
            return explore(prefix, rows, matrix, truths, 0);
        }

        private static int explore(Prefix prefix, ClauseRows rows, long matrix, int truths, int depth) {
            int verdict = rows.verdict(matrix, truths);
            int bit = prefix.firstFree(truths);
            if (verdict != 0 || bit == 0 || depth >= MOST_VARIABLES) {
                return verdict > 0 ? 1 : -1;
            }
            int ifTrue = explore(prefix, rows, matrix, truths | bit, depth + 1);
            if (ifTrue > 0 == prefix.isSome(bit)) {
                return ifTrue > 0 ? ifTrue + 1 : ifTrue - 1;
            }
            int ifFalse = explore(prefix, rows, matrix, truths | Literals.opposites(bit), depth + 1);
            int counted = 1 + Math.abs(ifTrue) + Math.abs(ifFalse);
            return ifFalse > 0 ? counted : -counted;
        }
    }

    /** Propagation for both sides. */
    private static final class Propagation {
        /** Returns the true literals behind it, with CONFLICT if that ends it. */
        static int run(Prefix prefix, ClauseRows rows, int assumed) {
            int truths = assumed;
            for (int step = 0; step <= MOST_VARIABLES; step++) {
                int found = fromClauses(prefix, rows, truths);
                if (found == 0) {
                    found = fromVariables(prefix, rows, truths);
                }
                if (found == 0) {
                    return truths;
                }
                truths |= found;
                if (found == CONFLICT) {
                    return truths;
                }
            }
            return truths;
        }

        /** A conflict anywhere goes ahead of the first clause that makes a literal true. */
        private static int fromClauses(Prefix prefix, ClauseRows rows, int truths) {
            long matrix = rows.matrix();
            int falses = Literals.opposites(truths);
            int unit = 0;
            for (int number = 0; number < rows.count; number++) {
                int set = rows.setOf(number);
                if (!ClauseRows.isIn(matrix, number) || (set & truths) != 0) {
                    continue;
                }
                int open = prefix.reduce(set & ~falses, true);
                if (open == 0) {
                    return CONFLICT;
                }
                if (unit == 0 && Integer.bitCount(open) == 1) {
                    unit = open;
                }
            }
            return unit;
        }

        private static int fromVariables(Prefix prefix, ClauseRows rows, int truths) {
            int open = openLiterals(rows, truths);
            for (int variable = 1; variable <= MOST_VARIABLES; variable++) {
                int found = open & Literals.bothOf(Literals.bitOf(variable));
                if (Integer.bitCount(found) == 1) {
                    return prefix.isSome(found) ? found : Literals.opposites(found);
                }
            }
            return 0;
        }

        /** The literals without a value of all clauses without a true literal. */
        private static int openLiterals(ClauseRows rows, int truths) {
            long matrix = rows.matrix();
            int open = 0;
            for (int number = 0; number < rows.count; number++) {
                int set = rows.setOf(number);
                if (ClauseRows.isIn(matrix, number) && (set & truths) == 0) {
                    open |= set;
                }
            }
            return open & ~Literals.opposites(truths);
        }
    }

    /** What may be resolved; all sets are taken reduced. */
    private static final class Proofs {
        static int others(int first, int second, int pivot) {
            return first & ~pivot | second & ~Literals.opposites(pivot);
        }

        static boolean canResolveClauses(Prefix prefix, int first, int second, int pivot, boolean isFar) {
            if (!prefix.isSome(pivot) || !isPivot(first, second, pivot)) {
                return false;
            }
            int twice = Literals.twiceIn(others(first, second, pivot));
            if (prefix.isSome(twice)) {
                return false;
            }
            // Of those in it with both literals, one that both clauses have is by these not alone and alike.
            int merged = twice & Literals.variablesOf(first) & Literals.variablesOf(second);
            return isFar ? (merged & ~prefix.behind(pivot)) == 0 : twice == 0;
        }

        static boolean canResolveTerms(Prefix prefix, int first, int second, int pivot) {
            return !prefix.isSome(pivot) && isPivot(first, second, pivot)
                    && Literals.twiceIn(others(first, second, pivot)) == 0;
        }

        private static boolean isPivot(int first, int second, int pivot) {
            return (first & pivot) != 0 && (second & Literals.opposites(pivot)) != 0;
        }
    }

    /** Looks at paths, at clauses that are blocked or held, and at expansion. */
    private static final class Looks {
        /** Whether clauses lead from a variable of 'a' to one of 'e' behind it. */
        static boolean isLinked(Prefix prefix, ClauseRows rows, int from, int to) {
            int links = prefix.behind(from) & prefix.someVariables;
            int reached = from;
            // Each round but the last reaches another variable.
            for (int round = 0; round <= MOST_VARIABLES; round++) {
                reached = from | widen(rows, reached) & links;
            }
            return (reached & to) != 0;
        }

        /** The variables of all clauses that have one of these. */
        private static int widen(ClauseRows rows, int reached) {
            long matrix = rows.matrix();
            int wider = reached;
            for (int number = 0; number < rows.count; number++) {
                int variables = Literals.variablesOf(rows.setOf(number));
                if (ClauseRows.isIn(matrix, number) && (variables & reached) != 0) {
                    wider |= variables;
                }
            }
            return wider;
        }

        static boolean isBlockedBy(Prefix prefix, ClauseRows rows, int clause, int bit) {
            int own = Literals.variablesOf(bit);
            int allowed = EVERY_VARIABLE & ~prefix.behind(own) & ~own;
            long matrix = rows.matrix();
            for (int number = 0; number < rows.count; number++) {
                int opposed = Literals.opposites(rows.setOf(number));
                if (!ClauseRows.isIn(matrix, number) || (opposed & bit) == 0) {
                    continue;
                }
                if ((Literals.variablesOf(rows.setOf(clause) & opposed) & allowed) == 0) {
                    return false;
                }
            }
            return true;
        }

        /** The lowest number of a clause that holds this one, -1 for none. */
        static int holderOf(ClauseRows rows, int clause) {
            int set = rows.setOf(clause);
            long matrix = rows.matrix();
            for (int number = 0; number < rows.count; number++) {
                int other = rows.setOf(number);
                boolean isWithin = ClauseRows.isIn(matrix, number) && (other & ~set) == 0;
                if (isWithin && (other != set || number < clause)) {
                    return number;
                }
            }
            return -1;
        }

        /** Whether a clause is held, or blocked by any of its literals. */
        static boolean isNeedless(Prefix prefix, ClauseRows rows, int clause) {
            if (holderOf(rows, clause) >= 0) {
                return true;
            }
            for (int place = 0; place < 2 * MOST_VARIABLES; place++) {
                int bit = rows.setOf(clause) & 1 << place;
                if (bit != 0 && prefix.isSome(bit) && isBlockedBy(prefix, rows, clause, bit)) {
                    return true;
                }
            }
            return false;
        }

        static int expandedCount(ClauseRows rows, int bit, int behind) {
            long matrix = rows.matrix();
            int sum = 0;
            for (int number = 0; number < rows.count; number++) {
                int variables = Literals.variablesOf(rows.setOf(number));
                if (!ClauseRows.isIn(matrix, number)) {
                    continue;
                }
                // One that has the variable is true by one of its values.
                boolean isOnce = (variables & bit) != 0 || (variables & behind) == 0;
                sum += isOnce ? 1 : 2;
            }
            return sum;
        }
    }

    /** The play of somebody against the strategy, without what is assumed. */
    private static final class Play {
        private boolean isOn;
        private boolean isTellerSome;
        private int truths;

        void start(boolean isSomeTold) {
            isOn = true;
            isTellerSome = isSomeTold;
            truths = 0;
        }

        void stop() {
            isOn = false;
        }

        void take(int bit, boolean isTrue) {
            truths |= isTrue ? bit : Literals.opposites(bit);
        }

        boolean isOver(Prefix prefix) {
            return prefix.firstFree(truths) == 0;
        }

        /** The strategy takes its values; returns the variable to be told next, 0 if all have values. */
        int goOn(Prefix prefix, ClauseRows rows) {
            for (int turn = 0; turn <= MOST_VARIABLES; turn++) {
                int bit = prefix.firstFree(truths);
                if (bit == 0) {
                    return 0;
                }
                if (prefix.isSome(bit) == isTellerSome) {
                    return Literals.variableOf(bit);
                }
                boolean toSome = Search.run(prefix, rows, rows.matrix(), truths | bit) > 0;
                take(bit, toSome != isTellerSome);
            }
            return 0;
        }

        boolean isWonBySome(ClauseRows rows) {
            return rows.verdict(rows.matrix(), truths) > 0;
        }

        /** Whether the strategy has won if it was to win and the play has ended. */
        boolean isSoundFor(Prefix prefix, ClauseRows rows, boolean toSome) {
            boolean isStrategyToWin = toSome != isTellerSome;
            return !isOn || !isOver(prefix) || !isStrategyToWin || isWonBySome(rows) == toSome;
        }
    }
}
