import java.util.function.Supplier;

/**
 * Each sentence of the document that tells of an exception: the last call that is taken, the first one that is
 * refused, which exception goes ahead of which, and that a refused call leaves all else as it was.
 */
public final class RefusalsTest extends Checks {
    private static final int LEAST = Integer.MIN_VALUE;
    private static final int MOST = Integer.MAX_VALUE;

    public static void main(String[] args) {
        block();
        variable();
        kind();
        type();
        clause();
        drop();
        size();
        literal();
        assume();
        assumeElsewhere();
        solve();
        core();
        coreAt();
        value();
        weight();
        best();
        resolve();
        resolveIndexes();
        resolveByA();
        term();
        termSize();
        termLiteral();
        resolveTerms();
        resolveTermsIndexes();
        depends();
        isBlocked();
        held();
        expands();
        begin();
        move();
        played();
        won();
        meanSize();
        allOfThem();
        end();
    }

    /** Each sentence that begins with "Throws" must have been a section here. */
    private static void allOfThem() {
        section("each promise");
        for (String place : places().keySet()) {
            for (String line : places().get(place).split("\n")) {
                if (place.startsWith("Promise ") && line.startsWith("Throws ")) {
                    due(place + ": " + plain(line), quoted(place).contains(plain(line)), true);
                }
            }
        }
    }

    // objects that hold something of all that can be held

    /**
     * e1 e2 | a3 a4 | e5 e6 | a7 | e8, the clauses 0 to 4, 5 dropped, 6 and 7 made, three terms, two literals
     * assumed, two weights, the long distance on, a play that waits for 4, and three literals typed.
     */
    private static Quantifold rich() {
        return rich("-4 6 2");
    }

    private static Quantifold rich(String typed) {
        Quantifold q = game("e2 a2 e2 a1 e1", "1 3 5", "-1 -3 6", "2 -5", "-2 7 8", "5 -6", "1 2");
        q.drop(5);
        q.far(true);
        q.resolve(0, 1, 1);
        q.resolve(6, 2, 5);
        term(q, "2 3 5 6 7");
        term(q, "2 3 5 6 -7 8");
        q.resolveTerms(0, 1, 7);
        assume(q, 2, -1);
        q.weight(1, 5);
        q.weight(-2, 7);
        wait4(q);
        type(q, typed);
        return q;
    }

    private static void wait4(Quantifold q) {
        q.begin('a');
        q.move(true);
    }

    private static Quantifold withSixBlocks() {
        Quantifold q = rich();
        q.block('a');
        wait4(q);
        return q;
    }

    private static Quantifold withTwelveVariables() {
        Quantifold q = rich();
        for (int v = 9; v <= 12; v++) {
            q.variable(v % 5);
        }
        wait4(q);
        return q;
    }

    private static Quantifold withEightTyped() {
        Quantifold q = rich("-4 6 2 1 -3 5 7 -8");
        q.variable(4);
        wait4(q);
        return q;
    }

    private static Quantifold withFortyClauses(String typed) {
        Quantifold q = rich(typed);
        for (int number = 8; number < 40; number++) {
            q.resolve(0, 1, 1);
        }
        return q;
    }

    private static Quantifold withFortyClauses() {
        return withFortyClauses("-4 6 2");
    }

    private static Quantifold withTwentyTerms(String typed) {
        Quantifold q = rich(typed);
        for (int number = 3; number < 20; number++) {
            q.resolveTerms(0, 1, 7);
        }
        return q;
    }

    private static Quantifold withTwentyTerms() {
        return withTwentyTerms("2 3 5 6 7");
    }

    /** By -2 that is assumed, 'a' wins, -1 is not needed for it. */
    private static Quantifold lost() {
        Quantifold q = rich();
        q.release();
        assume(q, -1, -2);
        return q;
    }

    private static Quantifold ended() {
        Quantifold q = rich();
        q.move(false);
        q.move(true);
        return q;
    }

    /** The clause 0 has dropped, 6 and 7 went with it; terms are there, no play is. */
    private static Quantifold without0() {
        Quantifold q = rich();
        q.drop(0);
        return q;
    }

    private static Quantifold withFirstOfA() {
        Quantifold q = game("a2 e2", "1 3", "-2 4");
        term(q, "3 4 1");
        type(q, "-3");
        q.begin('e');
        return q;
    }

    // prefix and clauses

    private static void block() {
        sentence("Promise 2", "Throws IllegalArgumentException if there is no such kind");
        for (char kind : new char[] {0, ' ', 'A', 'E', 'b', 'd', 'f', '?', '-', (char) ('a' + 256), (char) 65535}) {
            refused("block of kind " + (int) kind, ARGUMENT, RefusalsTest::rich, q -> q.block(kind));
        }
        refused("the first block, of no kind", ARGUMENT, Quantifold::new, q -> q.block('x'));
        refused("a seventh of no kind", ARGUMENT, RefusalsTest::withSixBlocks, q -> q.block('x'));
        sentence("Promise 2", "Throws IllegalStateException if there are 6");
        due("the sixth", rich().block('e'), 5);
        refused("a seventh of e", STATE, RefusalsTest::withSixBlocks, q -> q.block('e'));
        refused("a seventh of a", STATE, RefusalsTest::withSixBlocks, q -> q.block('a'));
    }

    private static void variable() {
        sentence("Promise 3", "Throws IndexOutOfBoundsException if there is no such block");
        due("the first block", rich().variable(0), 9);
        due("the last block", rich().variable(4), 9);
        for (int block : new int[] {-1, 5, 6, LEAST, MOST}) {
            refused("block " + block, INDEX, RefusalsTest::rich, q -> q.variable(block));
        }
        due("the block 5 of six", withSixBlocks().variable(5), 9);
        refused("the block 6 of six", INDEX, RefusalsTest::withSixBlocks, q -> q.variable(6));
        refused("no blocks", INDEX, Quantifold::new, q -> q.variable(0));
        refused("a thirteenth of no block", INDEX, RefusalsTest::withTwelveVariables, q -> q.variable(5));
        sentence("Promise 3", "Throws IllegalStateException if there are 12");
        Quantifold q = rich();
        for (int v = 9; v <= 12; v++) {
            due("variable " + v, q.variable(2), v);
        }
        fails("a thirteenth", STATE, () -> q.variable(2));
        for (int block = 0; block < 5; block++) {
            int of = block;
            refused("a thirteenth of " + of, STATE, RefusalsTest::withTwelveVariables, full -> full.variable(of));
        }
    }

    private static void kind() {
        sentence("Promise 4", "Throws IndexOutOfBoundsException if there is no such variable");
        due("the first", rich().kind(1), 'e');
        due("the last", rich().kind(8), 'e');
        for (int variable : new int[] {0, -1, 9, 13, LEAST, MOST}) {
            refused("kind of " + variable, INDEX, RefusalsTest::rich, q -> q.kind(variable));
        }
        due("the twelfth", withTwelveVariables().kind(12), 'e');
        refused("kind of 13 of 12", INDEX, RefusalsTest::withTwelveVariables, q -> q.kind(13));
        refused("kind of 1 of none", INDEX, () -> game("e0"), q -> q.kind(1));
    }

    private static void type() {
        sentence("Promise 5", "Throws IllegalArgumentException if there is no such variable");
        due("the last", rich().type(8), 4);
        due("its opposite", rich().type(-8), 4);
        for (int literal : new int[] {0, 9, -9, 13, -13, LEAST, MOST, -MOST}) {
            refused("type " + literal, ARGUMENT, RefusalsTest::rich, q -> q.type(literal));
            if (literal != 9 && literal != -9) {
                refused("a ninth, " + literal, ARGUMENT, RefusalsTest::withEightTyped, q -> q.type(literal));
            }
        }
        refused("type 1 of none", ARGUMENT, () -> game("e0"), q -> q.type(1));
        sentence("Promise 5", "Throws UnsupportedOperationException if its variable is typed");
        for (int literal : new int[] {-4, 4, 6, -6, 2, -2}) {
            refused("type " + literal, UNSUPPORTED, RefusalsTest::rich, q -> q.type(literal));
            refused("a ninth, " + literal, UNSUPPORTED, RefusalsTest::withEightTyped, q -> q.type(literal));
        }
        sentence("Promise 5", "Throws IllegalStateException if there are 8");
        Quantifold seven = rich("-4 6 2 1 -3 5 7");
        due("the eighth", seven.type(-8), 8);
        refused("a ninth", STATE, RefusalsTest::withEightTyped, q -> q.type(9));
        refused("a ninth, an opposite", STATE, RefusalsTest::withEightTyped, q -> q.type(-9));
    }

    private static void clause() {
        sentence("Promise 7", "Throws IllegalStateException if there were 40");
        Quantifold told = game("e1");
        for (int number = 0; number < 40; number++) {
            due("told", told.clause(), number);
        }
        fails("41 told", STATE, told::clause);
        Quantifold made = rich();
        for (int number = 8; number < 39; number++) {
            made.resolve(0, 1, 1);
        }
        due("40 with made ones", made.clause(), 39);
        refused("41 with made ones", STATE, RefusalsTest::withFortyClauses, q -> q.clause());
        refused("41 of nothing", STATE, () -> withFortyClauses(""), q -> q.clause());
        Supplier<Quantifold> dropped = () -> {
            Quantifold q = withFortyClauses();
            q.drop(0);
            return q;
        };
        refused("41 with many dropped", STATE, dropped, q -> q.clause());
    }

    private static void drop() {
        sentence("Promise 8", "Throws IndexOutOfBoundsException if there is no such clause");
        for (int clause : new int[] {-1, 5, 8, 39, 40, 63, 64, -64, LEAST, MOST}) {
            refused("drop " + clause, INDEX, RefusalsTest::rich, q -> q.drop(clause));
        }
        refused("0 of none", INDEX, Quantifold::new, q -> q.drop(0));
        refused("one that was dropped", INDEX, RefusalsTest::without0, q -> q.drop(0));
        refused("a made one that went", INDEX, RefusalsTest::without0, q -> q.drop(6));
        refused("40 of 40", INDEX, RefusalsTest::withFortyClauses, q -> q.drop(40));
        sentence("Promise 8", "Throws UnsupportedOperationException if it is a made one");
        due("the first", rich().drop(0), 3);
        due("the last told one", rich().drop(4), 1);
        refused("6", UNSUPPORTED, RefusalsTest::rich, q -> q.drop(6));
        refused("7", UNSUPPORTED, RefusalsTest::rich, q -> q.drop(7));
        refused("39", UNSUPPORTED, RefusalsTest::withFortyClauses, q -> q.drop(39));
    }

    private static void size() {
        sentence("Promise 10", "Throws IndexOutOfBoundsException if there is no such clause");
        due("the first", rich().size(0, false), 3);
        due("the last", rich().size(7, false), 4);
        due("39", withFortyClauses().size(39, true), 4);
        for (int clause : new int[] {-1, 5, 8, 39, 40, 63, 64, -64, LEAST, MOST}) {
            refused("size of " + clause, INDEX, RefusalsTest::rich, q -> q.size(clause, false));
            refused("size of " + clause + " reduced", INDEX, RefusalsTest::rich, q -> q.size(clause, true));
        }
        refused("0 of none", INDEX, Quantifold::new, q -> q.size(0, false));
        refused("one that went", INDEX, RefusalsTest::without0, q -> q.size(7, true));
        refused("40 of 40", INDEX, RefusalsTest::withFortyClauses, q -> q.size(40, false));
    }

    private static void literal() {
        sentence("Promise 11", "Throws IndexOutOfBoundsException if there is no such clause");
        for (int clause : new int[] {-1, 5, 8, 40, LEAST, MOST}) {
            refused("clause " + clause, INDEX, RefusalsTest::rich, q -> q.literal(clause, false, 0));
            refused("clause " + clause + " at none", INDEX, RefusalsTest::rich, q -> q.literal(clause, true, -1));
        }
        refused("one that went", INDEX, RefusalsTest::without0, q -> q.literal(6, false, 0));
        refused("one that was dropped, at none", INDEX, RefusalsTest::without0, q -> q.literal(0, false, 3));
        sentence("Promise 11", "Throws NoSuchElementException if there is none");
        due("the first", rich().literal(0, false, 0), 1);
        due("the last", rich().literal(0, false, 2), 5);
        due("the last of both literals", rich().literal(6, false, 3), 6);
        for (int index : new int[] {-1, 3, 8, 24, LEAST, MOST}) {
            refused("literal " + index, NONE, RefusalsTest::rich, q -> q.literal(0, false, index));
        }
        due("the last one reduced", rich("3").literal(3, true, 2), 8);
        Supplier<Quantifold> behind = () -> game("e1 a1", "1 2", "");
        due("not reduced", behind.get().literal(0, false, 1), 2);
        refused("reduced", NONE, behind, q -> q.literal(0, true, 1));
        refused("of nothing", NONE, behind, q -> q.literal(1, false, 0));
    }

    // the winner

    private static void assume() {
        sentence("Promise 13", "Throws IllegalArgumentException if there is no such variable");
        for (int literal : new int[] {0, 9, -9, 13, -13, LEAST, MOST, -MOST}) {
            refused("assume " + literal, ARGUMENT, RefusalsTest::rich, q -> q.assume(literal));
            refused("assume " + literal + " for a", ARGUMENT, RefusalsTest::withFirstOfA, q -> q.assume(literal));
        }
        refused("no variables", ARGUMENT, () -> game("e0"), q -> q.assume(1));
        sentence("Promise 13", "Throws UnsupportedOperationException if its variable is not of the block 0, "
                + "this is not of 'e', or it is assumed, or its opposite");
        Quantifold last = rich();
        last.variable(0);
        due("another one of the block 0", last.assume(-9), 3);
        for (int literal : new int[] {3, -4, 5, -6, 7, 8, -8}) {
            refused("assume " + literal, UNSUPPORTED, RefusalsTest::rich, q -> q.assume(literal));
        }
        for (int literal : new int[] {1, -1, 2, -2}) {
            refused("again " + literal, UNSUPPORTED, RefusalsTest::rich, q -> q.assume(literal));
        }
        for (int literal : new int[] {1, -1, 2, 3, -4}) {
            refused("block 0 of a, " + literal, UNSUPPORTED, RefusalsTest::withFirstOfA, q -> q.assume(literal));
        }
    }

    private static void assumeElsewhere() {
        Supplier<Quantifold> twice = () -> game("e1 e1", "1 2");
        due("the block 0", twice.get().assume(1), 1);
        refused("the block 1 of e", UNSUPPORTED, twice, q -> q.assume(2));
        refused("the block 1, the block 0 without variables", UNSUPPORTED, () -> game("e0 e1"), q -> q.assume(1));
        Supplier<Quantifold> twelve = () -> {
            Quantifold q = game("e12", "12");
            assume(q, 1, -2, 3, -4, 5, -6, 7, -8, 9, -10, 11, -12);
            return q;
        };
        due("twelve", twelve.get().release(), 12);
        refused("a twelfth again", UNSUPPORTED, twelve, q -> q.assume(12));
    }

    private static void solve() {
        sentence("Promise 17", "Throws IllegalArgumentException if it is out of range");
        due("1", rich().solve(1), '?');
        due("9999", rich().solve(9999), 'e');
        for (int budget : new int[] {0, -1, 10000, 10001, LEAST, MOST}) {
            refused("solve " + budget, ARGUMENT, RefusalsTest::rich, q -> q.solve(budget));
        }
    }

    private static void core() {
        sentence("Promise 18", "Throws UnsupportedOperationException if 'e' wins");
        due("a wins", core(lost()), "-2");
        refused("e wins", UNSUPPORTED, RefusalsTest::rich, q -> q.core());
        refused("nothing there", UNSUPPORTED, Quantifold::new, q -> q.core());
        Supplier<Quantifold> released = () -> {
            Quantifold q = lost();
            q.release();
            return q;
        };
        refused("released, e wins", UNSUPPORTED, released, q -> q.core());
    }

    private static void coreAt() {
        sentence("Promise 19", "Throws UnsupportedOperationException if 'e' wins");
        refused("e wins", UNSUPPORTED, RefusalsTest::rich, q -> q.coreAt(0));
        refused("e wins, none", UNSUPPORTED, RefusalsTest::rich, q -> q.coreAt(-1));
        refused("nothing there", UNSUPPORTED, Quantifold::new, q -> q.coreAt(0));
        sentence("Promise 19", "Throws NoSuchElementException if there is none");
        due("0 of 1", lost().coreAt(0), -2);
        for (int index : new int[] {-1, 1, 2, 12, LEAST, MOST}) {
            refused("coreAt " + index, NONE, RefusalsTest::lost, q -> q.coreAt(index));
        }
        refused("nothing assumed", NONE, () -> game("e1", ""), q -> q.coreAt(0));
    }

    private static void value() {
        sentence("Promise 21", "Throws IndexOutOfBoundsException if there is no such variable");
        due("the first", rich().value(1), 0);
        due("the last", rich().value(8), 1);
        due("the twelfth", withTwelveVariables().value(12), -1);
        for (int variable : new int[] {0, -1, 9, 13, LEAST, MOST}) {
            refused("value of " + variable, INDEX, RefusalsTest::rich, q -> q.value(variable));
        }
        refused("value of 13 of 12", INDEX, RefusalsTest::withTwelveVariables, q -> q.value(13));
    }

    private static void weight() {
        sentence("Promise 22", "Throws IllegalArgumentException if there is no such variable, "
                + "or the weight is not 0 to 99");
        due("0", rich().weight(1, 0), 5);
        due("99", rich().weight(-2, 99), 7);
        for (int literal : new int[] {0, 9, -9, 13, LEAST, MOST}) {
            refused("weight of " + literal, ARGUMENT, RefusalsTest::rich, q -> q.weight(literal, 1));
            refused("weight 0 of " + literal, ARGUMENT, RefusalsTest::rich, q -> q.weight(literal, 0));
        }
        for (int weight : new int[] {-1, 100, 101, LEAST, MOST}) {
            refused("weight " + weight, ARGUMENT, RefusalsTest::rich, q -> q.weight(1, weight));
            refused("weight " + weight + " elsewhere", ARGUMENT, RefusalsTest::rich, q -> q.weight(5, weight));
            refused("weight " + weight + ", block 0 of a", ARGUMENT, RefusalsTest::withFirstOfA,
                    q -> q.weight(1, weight));
        }
        sentence("Promise 22", "Throws UnsupportedOperationException if the variable is not of the block 0, "
                + "or this is not of 'e'");
        for (int literal : new int[] {3, -4, 5, -6, 7, 8}) {
            refused("weight of " + literal, UNSUPPORTED, RefusalsTest::rich, q -> q.weight(literal, 1));
            refused("weight 0 of " + literal, UNSUPPORTED, RefusalsTest::rich, q -> q.weight(literal, 0));
        }
        refused("block 0 of a", UNSUPPORTED, RefusalsTest::withFirstOfA, q -> q.weight(1, 1));
        refused("block 1 of e", UNSUPPORTED, RefusalsTest::withFirstOfA, q -> q.weight(3, 99));
        refused("block 1 of e behind e", UNSUPPORTED, () -> game("e1 e1"), q -> q.weight(2, 1));
    }

    private static void best() {
        sentence("Promise 23", "Throws NoSuchElementException if 'e' wins by no values of the block 0, "
                + "or this is not of 'e'");
        due("whatever is assumed", lost().best(), 5);
        due("one way to win, without weights", game("e2 a1", "1", "-2").best(), 0);
        refused("no way to win", NONE, () -> game("e2 a1", "1 3", "-1 2", "-2 3"), q -> q.best());
        refused("no variables, a wins", NONE, () -> game("e0 a1", "1"), q -> q.best());
        due("no variables, e wins", game("e0 a1").best(), 0);
        refused("block 0 of a", NONE, RefusalsTest::withFirstOfA, q -> q.best());
        refused("block 0 of a without variables", NONE, () -> game("a0 e1"), q -> q.best());
        refused("no block", NONE, Quantifold::new, q -> q.best());
        refused("an empty clause", NONE, () -> game("e1", "1", ""), q -> q.best());
    }

    // proofs

    private static void resolve() {
        sentence("Promise 25", "Throws UnsupportedOperationException if they cannot be resolved by it");
        due("0 and 1 by 1", rich().resolve(0, 1, 1), 8);
        refused("the wrong way round", UNSUPPORTED, RefusalsTest::rich, q -> q.resolve(1, 0, 1));
        refused("with itself", UNSUPPORTED, RefusalsTest::rich, q -> q.resolve(0, 0, 1));
        refused("the opposite with itself", UNSUPPORTED, RefusalsTest::rich, q -> q.resolve(1, 1, 1));
        refused("not in the second", UNSUPPORTED, RefusalsTest::rich, q -> q.resolve(0, 2, 1));
        refused("not in the first", UNSUPPORTED, RefusalsTest::rich, q -> q.resolve(2, 1, 1));
        refused("in neither", UNSUPPORTED, RefusalsTest::rich, q -> q.resolve(0, 1, 8));
        refused("the same literal in both", UNSUPPORTED, RefusalsTest::rich, q -> q.resolve(0, 4, 5));
        Supplier<Quantifold> off = () -> {
            Quantifold q = rich();
            q.far(false);
            return q;
        };
        refused("both literals of a, not far", UNSUPPORTED, off, q -> q.resolve(0, 1, 1));
        refused("both literals of a in one, not far", UNSUPPORTED, off, q -> q.resolve(6, 2, 5));
        refused("both literals of e", UNSUPPORTED, () -> game("e2", "1 2", "-1 -2"), q -> q.resolve(0, 1, 1));
        refused("41 that cannot", UNSUPPORTED, RefusalsTest::withFortyClauses, q -> q.resolve(1, 0, 1));
        sentence("Promise 25", "Throws IllegalStateException if there were 40");
        Quantifold q = rich();
        for (int number = 8; number < 40; number++) {
            due("made", q.resolve(0, 1, 1), number);
        }
        refused("41", STATE, RefusalsTest::withFortyClauses, full -> full.resolve(0, 1, 1));
        Supplier<Quantifold> told = () -> {
            Quantifold full = game("e1", "1", "-1");
            for (int number = 2; number < 40; number++) {
                full.clause();
            }
            full.drop(39);
            return full;
        };
        refused("41, all told, one dropped", STATE, told, full -> full.resolve(0, 1, 1));
    }

    private static void resolveIndexes() {
        sentence("Promise 25", "Throws IndexOutOfBoundsException if there is no such clause, for either, "
                + "or no such variable");
        for (int none : new int[] {-1, 5, 8, 39, 40, 64, LEAST, MOST}) {
            refused("the first " + none, INDEX, RefusalsTest::rich, q -> q.resolve(none, 1, 1));
            refused("the other " + none, INDEX, RefusalsTest::rich, q -> q.resolve(0, none, 1));
            refused("the first " + none + " by one of a", INDEX, RefusalsTest::rich, q -> q.resolve(none, 1, 3));
            refused("the other " + none + " by one of a", INDEX, RefusalsTest::rich, q -> q.resolve(0, none, 3));
        }
        for (int none : new int[] {0, -1, 9, 13, -13, LEAST, MOST}) {
            refused("variable " + none, INDEX, RefusalsTest::rich, q -> q.resolve(0, 1, none));
            refused("41 by " + none, INDEX, RefusalsTest::withFortyClauses, q -> q.resolve(0, 1, none));
        }
        refused("the first of 41 is none", INDEX, RefusalsTest::withFortyClauses, q -> q.resolve(5, 1, 1));
        refused("the other of 41 is none", INDEX, RefusalsTest::withFortyClauses, q -> q.resolve(0, 40, 1));
        refused("one that was dropped", INDEX, RefusalsTest::without0, q -> q.resolve(0, 1, 1));
        refused("one that went", INDEX, RefusalsTest::without0, q -> q.resolve(6, 2, 5));
        refused("the other one that went", INDEX, RefusalsTest::without0, q -> q.resolve(4, 6, 6));
    }

    private static void resolveByA() {
        sentence("Promise 25", "Throws UnsupportedOperationException if they cannot be resolved by it");
        refused("by one of a", UNSUPPORTED, () -> game("a1 e1", "1 2", "-1 2"), q -> q.resolve(0, 1, 1));
        refused("by one of a, reduced", UNSUPPORTED, () -> game("e1 a1", "1 2", "1 -2"), q -> q.resolve(0, 1, 2));
        refused("far, not behind", UNSUPPORTED, () -> {
            Quantifold q = game("a1 e1", "1 2", "-1 -2");
            q.far(true);
            return q;
        }, q -> q.resolve(0, 1, 2));
    }

    private static void term() {
        sentence("Promise 26", "Throws UnsupportedOperationException if some clause of the matrix has no literal of it");
        due("each has one", rich("3 6 2 7 5").term(), 3);
        refused("0 has none", UNSUPPORTED, () -> rich("6 2 7 -1"), q -> q.term());
        refused("4, the last one, has none", UNSUPPORTED, () -> rich("3 2 7 -1"), q -> q.term());
        refused("4 has the opposite alone", UNSUPPORTED, () -> rich("3 2 7 -5 -1"), q -> q.term());
        refused("nothing", UNSUPPORTED, () -> rich(""), q -> q.term());
        refused("an empty clause", UNSUPPORTED, () -> {
            Quantifold q = game("e1", "");
            q.type(1);
            return q;
        }, q -> q.term());
        refused("21 that some has none of", UNSUPPORTED, () -> withTwentyTerms("3 6 2"), q -> q.term());
        sentence("Promise 26", "Throws IllegalStateException if there are 20");
        Quantifold told = game("e1");
        for (int number = 0; number < 20; number++) {
            due("told", told.term(), number);
        }
        fails("21 told", STATE, told::term);
        Quantifold made = rich("3 6 2 7 5");
        for (int number = 3; number < 19; number++) {
            made.resolveTerms(0, 1, 7);
        }
        due("20 with made ones", made.term(), 19);
        refused("21", STATE, RefusalsTest::withTwentyTerms, q -> q.term());
    }

    private static void termSize() {
        sentence("Promise 28", "Throws IndexOutOfBoundsException if there is no such term");
        due("the first", rich().termSize(0, false), 5);
        due("the last", rich().termSize(2, true), 2);
        due("19", withTwentyTerms().termSize(19, false), 2);
        for (int term : new int[] {-1, 3, 19, 20, LEAST, MOST}) {
            refused("term " + term, INDEX, RefusalsTest::rich, q -> q.termSize(term, false));
            refused("term " + term + " reduced", INDEX, RefusalsTest::rich, q -> q.termSize(term, true));
        }
        refused("20 of 20", INDEX, RefusalsTest::withTwentyTerms, q -> q.termSize(20, false));
        refused("0 of none", INDEX, Quantifold::new, q -> q.termSize(0, false));
        refused("0 of those that are gone", INDEX, RefusalsTest::withTermsGone, q -> q.termSize(0, false));
    }

    private static Quantifold withTermsGone() {
        Quantifold q = rich();
        q.clause();
        return q;
    }

    private static void termLiteral() {
        sentence("Promise 29", "Throws IndexOutOfBoundsException if there is no such term");
        for (int term : new int[] {-1, 3, 20, LEAST, MOST}) {
            refused("term " + term, INDEX, RefusalsTest::rich, q -> q.termLiteral(term, false, 0));
            refused("term " + term + " at none", INDEX, RefusalsTest::rich, q -> q.termLiteral(term, true, -1));
        }
        refused("one that is gone", INDEX, RefusalsTest::withTermsGone, q -> q.termLiteral(0, false, 0));
        sentence("Promise 29", "Throws NoSuchElementException if there is none");
        due("the first", rich().termLiteral(0, false, 0), 2);
        due("the last", rich().termLiteral(0, false, 4), 7);
        due("the last, then reduced away", rich().termLiteral(1, false, 5), 8);
        for (int index : new int[] {-1, 5, 6, 24, LEAST, MOST}) {
            refused("literal " + index, NONE, RefusalsTest::rich, q -> q.termLiteral(0, false, index));
            refused("literal " + index + " reduced", NONE, RefusalsTest::rich, q -> q.termLiteral(1, true, index));
        }
        refused("of nothing", NONE, () -> {
            Quantifold q = game("e1");
            q.term();
            return q;
        }, q -> q.termLiteral(0, false, 0));
    }

    private static void resolveTerms() {
        sentence("Promise 30", "Throws UnsupportedOperationException if they cannot be resolved by it");
        due("0 and 1 by 7", rich().resolveTerms(0, 1, 7), 3);
        refused("the wrong way round", UNSUPPORTED, RefusalsTest::rich, q -> q.resolveTerms(1, 0, 7));
        refused("with itself", UNSUPPORTED, RefusalsTest::rich, q -> q.resolveTerms(0, 0, 7));
        refused("not in the second", UNSUPPORTED, RefusalsTest::rich, q -> q.resolveTerms(0, 2, 7));
        refused("not in the first", UNSUPPORTED, RefusalsTest::rich, q -> q.resolveTerms(2, 1, 7));
        refused("the same literal in both", UNSUPPORTED, RefusalsTest::rich, q -> q.resolveTerms(0, 1, 3));
        refused("in neither", UNSUPPORTED, RefusalsTest::rich, q -> q.resolveTerms(0, 1, 4));
        refused("of e", UNSUPPORTED, RefusalsTest::withTermsOfE, q -> q.resolveTerms(0, 1, 1));
        refused("both literals of e", UNSUPPORTED, RefusalsTest::withTermsOfE, q -> q.resolveTerms(0, 1, 2));
        refused("both literals of a", UNSUPPORTED, RefusalsTest::withTermsOfE, q -> q.resolveTerms(2, 3, 2));
        refused("21 that cannot", UNSUPPORTED, RefusalsTest::withTwentyTerms, q -> q.resolveTerms(1, 0, 7));
        sentence("Promise 30", "Throws IllegalStateException if there are 20");
        Quantifold q = rich();
        for (int number = 3; number < 20; number++) {
            due("made", q.resolveTerms(0, 1, 7), number);
        }
        refused("21", STATE, RefusalsTest::withTwentyTerms, full -> full.resolveTerms(0, 1, 7));
    }

    /** e1 | a2 | a3: terms that cannot be resolved, 0 and 1 by both literals of 1, 2 and 3 by those of 3. */
    private static Quantifold withTermsOfE() {
        Quantifold q = game("e1 a1 a1");
        term(q, "1 2");
        term(q, "-1 -2");
        term(q, "2 3");
        term(q, "-2 -3");
        return q;
    }

    private static void resolveTermsIndexes() {
        sentence("Promise 30", "Throws IndexOutOfBoundsException if there is no such term, for either, "
                + "or no such variable");
        for (int none : new int[] {-1, 3, 19, 20, LEAST, MOST}) {
            refused("the first " + none, INDEX, RefusalsTest::rich, q -> q.resolveTerms(none, 1, 7));
            refused("the other " + none, INDEX, RefusalsTest::rich, q -> q.resolveTerms(0, none, 7));
            refused("the first " + none + " by one of e", INDEX, RefusalsTest::rich, q -> q.resolveTerms(none, 1, 2));
            refused("the other " + none + " by one of e", INDEX, RefusalsTest::rich, q -> q.resolveTerms(0, none, 2));
        }
        for (int none : new int[] {0, -7, 9, 13, LEAST, MOST}) {
            refused("variable " + none, INDEX, RefusalsTest::rich, q -> q.resolveTerms(0, 1, none));
            refused("21 by " + none, INDEX, RefusalsTest::withTwentyTerms, q -> q.resolveTerms(0, 1, none));
        }
        refused("the first of 21 is none", INDEX, RefusalsTest::withTwentyTerms, q -> q.resolveTerms(20, 1, 7));
        refused("the other of 21 is none", INDEX, RefusalsTest::withTwentyTerms, q -> q.resolveTerms(0, 20, 7));
        refused("those that are gone", INDEX, RefusalsTest::withTermsGone, q -> q.resolveTerms(0, 1, 7));
    }

    // looks

    private static void depends() {
        sentence("Promise 32", "Throws IndexOutOfBoundsException if there is no such variable, for either");
        for (int none : new int[] {0, -3, -5, 9, 13, LEAST, MOST}) {
            refused("variable " + none, INDEX, RefusalsTest::rich, q -> q.depends(none, 3));
            refused("other " + none, INDEX, RefusalsTest::rich, q -> q.depends(5, none));
            refused("variable " + none + " of one of e", INDEX, RefusalsTest::rich, q -> q.depends(none, 5));
            refused("one of a, other " + none, INDEX, RefusalsTest::rich, q -> q.depends(3, none));
        }
        refused("12 of 13", INDEX, RefusalsTest::withTwelveVariables, q -> q.depends(12, 13));
        sentence("Promise 32", "Throws UnsupportedOperationException if they are not of 'e' and of 'a', "
                + "or the first one is not behind the other one");
        due("just behind", rich().depends(5, 3), true);
        due("far behind", rich().depends(8, 3), false);
        refused("e and e", UNSUPPORTED, RefusalsTest::rich, q -> q.depends(5, 1));
        refused("a and a", UNSUPPORTED, RefusalsTest::rich, q -> q.depends(7, 3));
        refused("a and e", UNSUPPORTED, RefusalsTest::rich, q -> q.depends(3, 1));
        refused("a and e behind it", UNSUPPORTED, RefusalsTest::rich, q -> q.depends(3, 5));
        refused("itself, of e", UNSUPPORTED, RefusalsTest::rich, q -> q.depends(5, 5));
        refused("itself, of a", UNSUPPORTED, RefusalsTest::rich, q -> q.depends(3, 3));
        refused("ahead of it", UNSUPPORTED, RefusalsTest::rich, q -> q.depends(1, 3));
        refused("just ahead of it", UNSUPPORTED, RefusalsTest::rich, q -> q.depends(6, 7));
        Supplier<Quantifold> later = () -> {
            Quantifold q = rich();
            q.variable(0);
            return q;
        };
        refused("of a greater number, but ahead", UNSUPPORTED, later, q -> q.depends(9, 3));
    }

    private static void isBlocked() {
        sentence("Promise 33", "Throws IndexOutOfBoundsException if there is no such clause");
        for (int clause : new int[] {-1, 5, 8, 40, LEAST, MOST}) {
            for (int literal : new int[] {1, 3, 0, LEAST}) {
                refused("clause " + clause + " by " + literal, INDEX, RefusalsTest::rich,
                        q -> q.isBlocked(clause, literal));
            }
        }
        refused("a made one that went", INDEX, RefusalsTest::without0, q -> q.isBlocked(6, 5));
        sentence("Promise 33", "Throws UnsupportedOperationException if it is a made one, "
                + "or the literal is not in it, or of 'a'");
        due("the first clause", rich().isBlocked(0, 1), false);
        due("its last literal", rich().isBlocked(0, 5), false);
        due("an opposite in the last clause", rich().isBlocked(4, -6), false);
        for (int literal : new int[] {5, 6, 3, 1, 0}) {
            refused("a made one by " + literal, UNSUPPORTED, RefusalsTest::rich, q -> q.isBlocked(6, literal));
        }
        for (int literal : new int[] {-1, -5, 2, 8, -8, 3, -3, 4, 0, 9, -9, 13, -13, 25, 33, LEAST, MOST}) {
            refused("0 by " + literal, UNSUPPORTED, RefusalsTest::rich, q -> q.isBlocked(0, literal));
        }
        refused("by one of a", UNSUPPORTED, RefusalsTest::rich, q -> q.isBlocked(3, 7));
        refused("an empty one", UNSUPPORTED, () -> game("e1", ""), q -> q.isBlocked(0, 1));
    }

    private static void held() {
        sentence("Promise 34", "Throws IndexOutOfBoundsException if there is no such clause");
        due("the first", rich().held(0), -1);
        due("the last told one", rich().held(4), -1);
        for (int clause : new int[] {-1, 5, 8, 39, 40, LEAST, MOST}) {
            refused("held " + clause, INDEX, RefusalsTest::rich, q -> q.held(clause));
        }
        refused("a made one that went", INDEX, RefusalsTest::without0, q -> q.held(7));
        refused("0 of none", INDEX, Quantifold::new, q -> q.held(0));
        sentence("Promise 34", "Throws UnsupportedOperationException if it is a made one");
        refused("6", UNSUPPORTED, RefusalsTest::rich, q -> q.held(6));
        refused("39", UNSUPPORTED, RefusalsTest::withFortyClauses, q -> q.held(39));
    }

    private static void expands() {
        sentence("Promise 35", "Throws IndexOutOfBoundsException if there is no such variable");
        for (int variable : new int[] {0, -7, 9, 13, LEAST, MOST}) {
            refused("variable " + variable, INDEX, RefusalsTest::rich, q -> q.expands(variable));
        }
        refused("13 of 12", INDEX, RefusalsTest::withTwelveVariables, q -> q.expands(13));
        sentence("Promise 35", "Throws UnsupportedOperationException if it is not of 'a', "
                + "or there is another one of 'a' behind it");
        due("the last one", rich().expands(7), 5);
        for (int variable : new int[] {1, 2, 5, 6, 8}) {
            refused("of e, " + variable, UNSUPPORTED, RefusalsTest::rich, q -> q.expands(variable));
        }
        refused("3, 7 is behind", UNSUPPORTED, RefusalsTest::rich, q -> q.expands(3));
        refused("4, 7 is behind", UNSUPPORTED, RefusalsTest::rich, q -> q.expands(4));
        due("another one in its block", game("a2", "1 2").expands(1), 1);
        refused("another one in the next block", UNSUPPORTED, () -> game("a1 a1", "1 2"), q -> q.expands(1));
        due("the last of two blocks of a", game("a1 a1", "1 2").expands(2), 1);
    }

    // play and sums

    private static void begin() {
        sentence("Promise 36", "Throws IllegalArgumentException if there is no such side");
        due("e", rich().begin('e'), 1);
        due("a", rich().begin('a'), 3);
        for (char side : new char[] {0, 'A', 'E', 'b', 'd', 'f', '?', '-', (char) ('e' + 256), (char) 65535}) {
            refused("in a play, side " + (int) side, ARGUMENT, RefusalsTest::rich, q -> q.begin(side));
            refused("no play, side " + (int) side, ARGUMENT, RefusalsTest::without0, q -> q.begin(side));
        }
        refused("an ended play", ARGUMENT, RefusalsTest::ended, q -> q.begin('x'));
    }

    private static void move() {
        sentence("Promise 37", "Throws UnsupportedOperationException if no play goes on, or all have values");
        Quantifold q = rich();
        due("the last but one", q.move(false), 7);
        due("the last one", q.move(true), 0);
        for (boolean value : new boolean[] {true, false}) {
            refused("all have values", UNSUPPORTED, RefusalsTest::ended, ended -> ended.move(value));
            refused("no play goes on", UNSUPPORTED, RefusalsTest::without0, none -> none.move(value));
            refused("nothing there", UNSUPPORTED, Quantifold::new, none -> none.move(value));
        }
        refused("no variables", UNSUPPORTED, () -> {
            Quantifold none = new Quantifold();
            none.begin('a');
            return none;
        }, none -> none.move(true));
    }

    private static void played() {
        sentence("Promise 38", "Throws IndexOutOfBoundsException if there is no such variable");
        for (int variable : new int[] {0, -1, 9, 13, LEAST, MOST}) {
            refused("in a play, " + variable, INDEX, RefusalsTest::rich, q -> q.played(variable));
            refused("no play goes on, " + variable, INDEX, RefusalsTest::without0, q -> q.played(variable));
        }
        sentence("Promise 38", "Throws UnsupportedOperationException if no play goes on");
        due("the first", rich().played(1), 1);
        due("the last", rich().played(8), -1);
        due("the last of one that is over", ended().played(8), 1);
        refused("the first", UNSUPPORTED, RefusalsTest::without0, q -> q.played(1));
        refused("the last", UNSUPPORTED, RefusalsTest::without0, q -> q.played(8));
        refused("no play yet", UNSUPPORTED, () -> game("e1"), q -> q.played(1));
    }

    private static void won() {
        sentence("Promise 39", "Throws UnsupportedOperationException if no play goes on, or not all have values");
        due("all have values", ended().won(), 'e');
        refused("two have none", UNSUPPORTED, RefusalsTest::rich, q -> q.won());
        Supplier<Quantifold> lacking = () -> {
            Quantifold q = rich();
            q.move(false);
            return q;
        };
        refused("the last but one has none", UNSUPPORTED, lacking, q -> q.won());
        refused("the last one has none", UNSUPPORTED, () -> {
            Quantifold q = game("e2", "1 2");
            q.begin('e');
            q.move(true);
            return q;
        }, q -> q.won());
        refused("no play goes on", UNSUPPORTED, RefusalsTest::without0, q -> q.won());
        refused("no play yet, no variables", UNSUPPORTED, Quantifold::new, q -> q.won());
    }

    private static void meanSize() {
        sentence("Promise 42", "Throws NoSuchElementException if there are none");
        due("one", game("e1", "1").meanSize(), 1.0);
        due("an empty one", game("e1", "").meanSize(), 0.0);
        refused("none", NONE, Quantifold::new, q -> q.meanSize());
        refused("all dropped", NONE, () -> {
            Quantifold q = game("e1", "1", "-1");
            q.resolve(0, 1, 1);
            q.drop(0);
            q.drop(1);
            return q;
        }, q -> q.meanSize());
    }
}
