import java.util.ArrayList;
import java.util.Collections;
import java.util.Comparator;
import java.util.HashSet;
import java.util.List;
import java.util.NoSuchElementException;
import java.util.Set;
import java.util.TreeSet;

/**
 * Long runs of calls, many with wrong arguments, whose answers are compared with those of a second solver that is
 * written in another way: with sets of numbers, values in an array, and no bits.
 */
public final class ReferenceTest {
    private static final int RUNS = 1500;
    private static final int CALLS = 512;

    public static void main(String[] args) {
        int wrong = 0;
        long compared = 0;
        for (int run = 0; run < RUNS && wrong < 5; run++) {
            Dice dice = new Dice(run);
            Quantifold tested = new Quantifold();
            Slow slow = new Slow();
            StringBuilder told = new StringBuilder();
            for (int i = 0; i < CALLS; i++) {
                Step step = Step.rolled(dice, i - 20 - run % 45, slow);
                Object want = answer(slow, step);
                Object got = answer(tested, step);
                told.append(step).append(" -> ").append(got).append('\n');
                compared++;
                if (!want.equals(got)) {
                    wrong++;
                    System.out.println("run " + run + ":\n" + told + "due is " + want);
                    break;
                }
            }
        }
        System.out.println(compared + " answers compared, " + wrong + " wrong");
        if (wrong != 0) {
            System.exit(1);
        }
    }

    /** A sequence of numbers that is the same each time. */
    private static final class Dice {
        private long state;

        Dice(long seed) {
            state = seed * 0x9E3779B97F4A7C15L + 12345;
        }

        int roll(int sides) {
            state = state * 6364136223846793005L + 1442695040888963407L;
            return (int) ((state >>> 33) % sides);
        }

        int between(int low, int high) {
            return low + roll(high - low + 1);
        }

        boolean once(int in) {
            return roll(in) == 0;
        }
    }

    private static final String[] NAMES = {
        "block", "variable", "kind", "type", "type", "type", "type", "type", "type", "wipe", "clause", "clause",
        "clause", "drop", "clauses", "size", "literal", "holds", "assume", "assume", "release", "winner", "positions",
        "solve", "core", "coreAt", "conflicts", "value", "value", "weight", "weight", "best", "far", "resolve",
        "resolve", "resolve", "resolve", "resolve", "typeTerm", "typeTerm", "typeTerm", "typeTerm", "term", "terms", "termSize", "termLiteral",
        "resolveTerms", "resolveTerms", "resolveTerms", "proved", "depends", "isBlocked", "isBlocked", "held", "expands",
        "begin", "move", "move", "move", "played", "won", "checksum", "trueShare", "meanSize", "isSound"
    };

    private static final class Step {
        final String name;
        final int a;
        final int b;
        final int c;
        final boolean is;

        Step(String name, int a, int b, int c, boolean is) {
            this.name = name;
            this.a = a;
            this.b = b;
            this.c = c;
            this.is = is;
        }

        /** First a formula that is worth a look, then any calls. */
        static Step rolled(Dice dice, int at, Slow slow) {
            if (at < 0) {
                return built(dice, slow);
            }
            String name = NAMES[dice.roll(NAMES.length)];
            boolean isChange = name.equals("block") || name.equals("variable") || name.equals("clause")
                    || name.equals("drop");
            if (isChange && !dice.once(name.equals("drop") ? 4 : 3)) {
                name = "resolve";
            }
            // An empty clause ends all that can be looked at, and is told seldom.
            if (name.equals("clause") && slow.reduce(slow.typed, 'a').isEmpty() && !dice.once(40)) {
                name = "type";
            }
            int[] numbers = {number(dice, name, 0, slow), number(dice, name, 1, slow), number(dice, name, 2, slow)};
            if (name.equals("typeTerm")) {
                // A random set seldom meets each clause: type what the term still lacks.
                numbers[0] = slow.lacking(dice);
                name = numbers[0] == 0 ? "term" : "type";
            }
            if (name.equals("resolve") && !dice.once(4)) {
                slow.pair(dice, slow.clauses, numbers);
            }
            if (name.equals("resolveTerms") && !dice.once(4)) {
                slow.pair(dice, slow.terms, numbers);
            }
            return new Step(name, numbers[0], numbers[1], numbers[2], dice.once(2));
        }

        private static Step built(Dice dice, Slow slow) {
            int blocks = slow.kinds.size();
            int variables = slow.blockOf.size();
            if (blocks < 2 || blocks < 6 && dice.once(10)) {
                boolean isSome = blocks == 0 ? dice.once(2) : slow.kinds.get(blocks - 1) == 'a' != dice.once(8);
                return new Step("block", isSome ? 'e' : 'a', 0, 0, false);
            }
            if (variables < 4 || variables < 12 && dice.once(12)) {
                return new Step("variable", dice.roll(blocks), 0, 0, false);
            }
            if (slow.typed.size() < 2 + dice.roll(3) || slow.reduce(slow.typed, 'a').isEmpty() && !dice.once(20)) {
                return new Step("type", dice.between(1, variables) * (dice.once(2) ? 1 : -1), 0, 0, false);
            }
            return new Step("clause", 0, 0, 0, false);
        }

        private static int number(Dice dice, String name, int place, Slow slow) {
            if (dice.once(60)) {
                int[] odd = {Integer.MIN_VALUE, Integer.MAX_VALUE, -1, 0, 13, -13, 40, 6, 100};
                return odd[dice.roll(odd.length)];
            }
            int variables = slow.blockOf.size();
            switch (name) {
                case "block":
                case "begin":
                    return dice.once(12) ? dice.roll(200) : dice.once(2) ? 'a' : 'e';
                case "variable":
                    return dice.roll(slow.kinds.size() + 1);
                case "size":
                case "literal":
                case "drop":
                case "held":
                    return place == 0 ? dice.roll(slow.clauses.size() + 1) : dice.between(-1, 8);
                case "isBlocked":
                    if (place == 1 && !slow.clauses.isEmpty()) {
                        List<Integer> any = slow.clauses.get(dice.roll(slow.clauses.size()));
                        if (any != null && !any.isEmpty()) {
                            return any.get(dice.roll(any.size()));
                        }
                    }
                    return place == 0 ? dice.roll(slow.clauses.size() + 1) : dice.between(-variables, variables);
                case "resolve":
                    return place < 2 ? dice.roll(slow.clauses.size() + 1) : dice.roll(variables + 1);
                case "termSize":
                case "termLiteral":
                case "resolveTerms":
                    return place < 2 ? dice.roll(slow.terms.size() + 1) : dice.roll(variables + 1);
                case "holds":
                    return dice.roll(1 << 20);
                case "solve":
                    return dice.once(8) ? dice.roll(10002) : dice.roll(40);
                case "weight":
                    return place == 0 ? dice.between(-variables, variables) : dice.between(0, 103);
                case "coreAt":
                    return dice.roll(4);
                case "depends":
                case "expands":
                case "value":
                case "played":
                case "kind":
                    return dice.roll(variables + 2);
                default:
                    return dice.between(-variables - 1, variables + 1);
            }
        }

        @Override
        public String toString() {
            return name + "(" + a + ", " + b + ", " + c + ", " + is + ")";
        }
    }

    private static Object answer(Quantifold q, Step s) {
        try {
            switch (s.name) {
                case "block": return q.block((char) s.a);
                case "variable": return q.variable(s.a);
                case "kind": return q.kind(s.a);
                case "type": return q.type(s.a);
                case "wipe": return q.wipe();
                case "clause": return q.clause();
                case "drop": return q.drop(s.a);
                case "clauses": return q.clauses();
                case "size": return q.size(s.a, s.is);
                case "literal": return q.literal(s.a, s.is, s.b);
                case "holds": return q.holds(s.a);
                case "assume": return q.assume(s.a);
                case "release": return q.release();
                case "winner": return q.winner();
                case "positions": return q.positions();
                case "solve": return q.solve(s.a);
                case "core": return q.core();
                case "coreAt": return q.coreAt(s.a);
                case "conflicts": return q.conflicts();
                case "value": return q.value(s.a);
                case "weight": return q.weight(s.a, s.b);
                case "best": return q.best();
                case "far": return q.far(s.is);
                case "resolve": return q.resolve(s.a, s.b, s.c);
                case "term": return q.term();
                case "terms": return q.terms();
                case "termSize": return q.termSize(s.a, s.is);
                case "termLiteral": return q.termLiteral(s.a, s.is, s.b);
                case "resolveTerms": return q.resolveTerms(s.a, s.b, s.c);
                case "proved": return q.proved();
                case "depends": return q.depends(s.a, s.b);
                case "isBlocked": return q.isBlocked(s.a, s.b);
                case "held": return q.held(s.a);
                case "expands": return q.expands(s.a);
                case "begin": return q.begin((char) s.a);
                case "move": return q.move(s.is);
                case "played": return q.played(s.a);
                case "won": return q.won();
                case "checksum": return q.checksum();
                case "trueShare": return q.trueShare();
                case "meanSize": return q.meanSize();
                case "isSound": return q.isSound();
                default: return "no such call";
            }
        } catch (RuntimeException e) {
            return e.getClass().getName();
        }
    }

    private static Object answer(Slow q, Step s) {
        try {
            switch (s.name) {
                case "block": return q.block((char) s.a);
                case "variable": return q.variable(s.a);
                case "kind": q.needVariable(s.a); return q.kindOf(s.a);
                case "type": return q.type(s.a);
                case "wipe": return q.wipe();
                case "clause": return q.clause();
                case "drop": return q.drop(s.a);
                case "clauses": return q.matrix().size();
                case "size": return q.clauseAs(s.a, s.is).size();
                case "literal": return Slow.at(q.clauseAs(s.a, s.is), s.b);
                case "holds": return q.holds(s.a);
                case "assume": return q.assume(s.a);
                case "release": return q.release();
                case "winner": return q.search(q.assumed, q.matrix());
                case "positions": q.search(q.assumed, q.matrix()); return q.counted;
                case "solve": return q.solve(s.a);
                case "core": return q.core().size();
                case "coreAt": return Slow.at(q.core(), s.a);
                case "conflicts": q.propagate(); return q.isConflict;
                case "value": q.needVariable(s.a); q.propagate(); return q.values[s.a];
                case "weight": return q.weight(s.a, s.b);
                case "best": return q.best();
                case "far": return q.far(s.is);
                case "resolve": return q.resolve(s.a, s.b, s.c);
                case "term": return q.term();
                case "terms": return q.terms.size();
                case "termSize": return q.termAs(s.a, s.is).size();
                case "termLiteral": return Slow.at(q.termAs(s.a, s.is), s.b);
                case "resolveTerms": return q.resolveTerms(s.a, s.b, s.c);
                case "proved": return q.proved();
                case "depends": return q.depends(s.a, s.b);
                case "isBlocked": return q.isBlocked(s.a, s.b);
                case "held": return q.held(s.a);
                case "expands": return q.expands(s.a);
                case "begin": return q.begin((char) s.a);
                case "move": return q.move(s.is);
                case "played": return q.played(s.a);
                case "won": return q.won();
                case "checksum": return q.checksum();
                case "trueShare": return q.trueShare();
                case "meanSize": return q.meanSize();
                case "isSound": return true;
                default: return "no such call";
            }
        } catch (RuntimeException e) {
            return e.getClass().getName();
        }
    }

    /** The second solver. */
    private static final class Slow {
        final List<Character> kinds = new ArrayList<>();
        final List<Integer> blockOf = new ArrayList<>();
        final List<Integer> typed = new ArrayList<>();
        final List<List<Integer>> clauses = new ArrayList<>();
        final List<int[]> parents = new ArrayList<>();
        final List<List<Integer>> terms = new ArrayList<>();
        final List<Integer> assumed = new ArrayList<>();
        final int[] weightOf = new int[25];
        final int[] values = new int[13];
        boolean isConflict;
        boolean isFar;
        int counted;
        int[] game;
        char side;

        void need(boolean is, RuntimeException otherwise) {
            if (!is) {
                throw otherwise;
            }
        }

        boolean isVariable(long v) {
            return v >= 1 && v <= blockOf.size();
        }

        boolean isLiteral(int literal) {
            return isVariable(Math.abs((long) literal));
        }

        void needVariable(int v) {
            need(isVariable(v), new IndexOutOfBoundsException());
        }

        int block(int literal) {
            return blockOf.get(Math.abs(literal) - 1);
        }

        char kindOf(int literal) {
            return kinds.get(block(literal));
        }

        int block(char kind) {
            need(kind == 'e' || kind == 'a', new IllegalArgumentException());
            need(kinds.size() < 6, new IllegalStateException());
            kinds.add(kind);
            game = null;
            return kinds.size() - 1;
        }

        int variable(int block) {
            need(block >= 0 && block < kinds.size(), new IndexOutOfBoundsException());
            need(blockOf.size() < 12, new IllegalStateException());
            blockOf.add(block);
            game = null;
            return blockOf.size();
        }

        int type(int literal) {
            need(isLiteral(literal), new IllegalArgumentException());
            need(!typed.contains(literal) && !typed.contains(-literal), new UnsupportedOperationException());
            need(typed.size() < 8, new IllegalStateException());
            typed.add(literal);
            return typed.size();
        }

        int lacking(Dice dice) {
            for (int number : matrix()) {
                if (Collections.disjoint(clauses.get(number), typed) && !clauses.get(number).isEmpty()) {
                    return clauses.get(number).get(dice.roll(clauses.get(number).size()));
                }
            }
            return dice.once(4) ? dice.roll(13) : 0;
        }

        /** Looks for two sets that have a variable by opposites. */
        void pair(Dice dice, List<List<Integer>> sets, int[] numbers) {
            for (int tries = 0; tries < 40 && !sets.isEmpty(); tries++) {
                int one = dice.roll(sets.size());
                int other = dice.roll(sets.size());
                List<Integer> first = sets.get(one);
                if (first == null || first.isEmpty() || sets.get(other) == null) {
                    continue;
                }
                int v = Math.abs(first.get(dice.roll(first.size())));
                if (first.contains(v) && sets.get(other).contains(-v)) {
                    numbers[0] = one;
                    numbers[1] = other;
                    numbers[2] = v;
                    return;
                }
            }
        }

        int wipe() {
            int before = typed.size();
            typed.clear();
            return before;
        }

        static List<Integer> sorted(List<Integer> literals) {
            List<Integer> all = new ArrayList<>(new HashSet<>(literals));
            all.sort(Comparator.comparingInt((Integer l) -> Math.abs(l)).thenComparing(l -> -l));
            return all;
        }

        int clause() {
            need(clauses.size() < 40, new IllegalStateException());
            clauses.add(sorted(typed));
            parents.add(null);
            typed.clear();
            terms.clear();
            game = null;
            return clauses.size() - 1;
        }

        void needClause(int number) {
            need(number >= 0 && number < clauses.size() && clauses.get(number) != null,
                    new IndexOutOfBoundsException());
        }

        void needTold(int number) {
            need(parents.get(number) == null, new UnsupportedOperationException());
        }

        int drop(int number) {
            needClause(number);
            needTold(number);
            game = null;
            return goes(number);
        }

        private int goes(int number) {
            if (clauses.get(number) == null) {
                return 0;
            }
            clauses.set(number, null);
            int gone = 1;
            for (int i = 0; i < parents.size(); i++) {
                int[] from = parents.get(i);
                if (from != null && (from[0] == number || from[1] == number)) {
                    gone += goes(i);
                }
            }
            return gone;
        }

        List<Integer> matrix() {
            List<Integer> numbers = new ArrayList<>();
            for (int i = 0; i < clauses.size(); i++) {
                if (clauses.get(i) != null && parents.get(i) == null) {
                    numbers.add(i);
                }
            }
            return numbers;
        }

        List<Integer> reduce(List<Integer> set, char goes) {
            List<Integer> rest = new ArrayList<>();
            for (int literal : set) {
                boolean stays = kindOf(literal) != goes;
                for (int other : set) {
                    stays |= kindOf(other) != goes && block(other) > block(literal);
                }
                if (stays) {
                    rest.add(literal);
                }
            }
            return rest;
        }

        List<Integer> clauseAs(int number, boolean isReduced) {
            needClause(number);
            return isReduced ? reduce(clauses.get(number), 'a') : clauses.get(number);
        }

        List<Integer> termAs(int number, boolean isReduced) {
            need(number >= 0 && number < terms.size(), new IndexOutOfBoundsException());
            return isReduced ? reduce(terms.get(number), 'e') : terms.get(number);
        }

        static int at(List<Integer> row, int index) {
            if (index < 0 || index >= row.size()) {
                throw new NoSuchElementException();
            }
            return row.get(index);
        }

        /** 1 true, 0 false, -1 none. */
        static int truth(int literal, int[] given) {
            int value = given[Math.abs(literal)];
            return value < 0 ? -1 : literal > 0 ? value : 1 - value;
        }

        boolean holds(int bits) {
            int[] given = new int[13];
            for (int v = 1; v <= 12; v++) {
                given[v] = bits >> (v - 1) & 1;
            }
            return isTrueAll(given);
        }

        private boolean isTrueAll(int[] given) {
            for (int number : matrix()) {
                boolean is = false;
                for (int literal : clauses.get(number)) {
                    is |= truth(literal, given) == 1;
                }
                if (!is) {
                    return false;
                }
            }
            return true;
        }

        static int[] noValues() {
            int[] given = new int[13];
            java.util.Arrays.fill(given, -1);
            return given;
        }

        static void set(int[] given, int literal) {
            given[Math.abs(literal)] = literal > 0 ? 1 : 0;
        }

        List<Integer> order() {
            List<Integer> all = new ArrayList<>();
            for (int v = 1; v <= blockOf.size(); v++) {
                all.add(v);
            }
            all.sort(Comparator.comparingInt(v -> block((int) v)));
            return all;
        }

        char search(List<Integer> truths, List<Integer> matrix) {
            int[] given = noValues();
            for (int literal : truths) {
                set(given, literal);
            }
            counted = 0;
            return search(given, order(), matrix);
        }

        private char search(int[] given, List<Integer> order, List<Integer> matrix) {
            counted++;
            boolean all = true;
            for (int number : matrix) {
                boolean allFalse = true;
                boolean someTrue = false;
                for (int literal : clauses.get(number)) {
                    allFalse &= truth(literal, given) == 0;
                    someTrue |= truth(literal, given) == 1;
                }
                if (allFalse) {
                    return 'a';
                }
                all &= someTrue;
            }
            if (all) {
                return 'e';
            }
            for (int v : order) {
                if (given[v] < 0) {
                    given[v] = 1;
                    char wins = search(given, order, matrix);
                    if (wins != kindOf(v)) {
                        given[v] = 0;
                        wins = search(given, order, matrix);
                    }
                    given[v] = -1;
                    return wins;
                }
            }
            throw new AssertionError();
        }

        int assume(int literal) {
            need(isLiteral(literal), new IllegalArgumentException());
            need(block(literal) == 0 && kindOf(literal) == 'e' && !assumed.contains(literal)
                    && !assumed.contains(-literal), new UnsupportedOperationException());
            assumed.add(literal);
            return assumed.size();
        }

        int release() {
            int before = assumed.size();
            assumed.clear();
            return before;
        }

        char solve(int budget) {
            need(budget >= 1 && budget <= 9999, new IllegalArgumentException());
            char wins = search(assumed, matrix());
            return counted <= budget ? wins : '?';
        }

        List<Integer> core() {
            need(search(assumed, matrix()) == 'a', new UnsupportedOperationException());
            List<Integer> stays = new ArrayList<>(assumed);
            for (Integer literal : assumed) {
                List<Integer> without = new ArrayList<>(stays);
                without.remove(literal);
                if (search(without, matrix()) == 'a') {
                    stays = without;
                }
            }
            return stays;
        }

        void propagate() {
            int[] start = noValues();
            for (int literal : assumed) {
                set(start, literal);
            }
            System.arraycopy(start, 0, values, 0, start.length);
            isConflict = false;
            while (true) {
                List<List<Integer>> open = new ArrayList<>();
                for (int number : matrix()) {
                    List<Integer> rest = new ArrayList<>();
                    boolean isTrue = false;
                    for (int literal : clauses.get(number)) {
                        isTrue |= truth(literal, values) == 1;
                        if (truth(literal, values) < 0) {
                            rest.add(literal);
                        }
                    }
                    if (!isTrue) {
                        open.add(rest);
                    }
                }
                Integer next = null;
                for (List<Integer> rest : open) {
                    isConflict |= reduce(rest, 'a').isEmpty();
                    if (next == null && reduce(rest, 'a').size() == 1) {
                        next = reduce(rest, 'a').get(0);
                    }
                }
                if (isConflict) {
                    return;
                }
                for (int v = 1; v <= blockOf.size() && next == null; v++) {
                    boolean isIn = false;
                    boolean isOpposite = false;
                    for (List<Integer> rest : open) {
                        isIn |= rest.contains(v);
                        isOpposite |= rest.contains(-v);
                    }
                    if (isIn != isOpposite) {
                        next = isIn == (kindOf(v) == 'e') ? v : -v;
                    }
                }
                if (next == null) {
                    return;
                }
                set(values, next);
            }
        }

        int weight(int literal, int weight) {
            need(isLiteral(literal) && weight >= 0 && weight <= 99, new IllegalArgumentException());
            need(block(literal) == 0 && kindOf(literal) == 'e', new UnsupportedOperationException());
            int before = weightOf[12 + literal];
            weightOf[12 + literal] = weight;
            return before;
        }

        int best() {
            need(!kinds.isEmpty() && kinds.get(0) == 'e', new NoSuchElementException());
            List<Integer> first = new ArrayList<>();
            for (int v = 1; v <= blockOf.size(); v++) {
                if (block(v) == 0) {
                    first.add(v);
                }
            }
            int best = bestFrom(first, new ArrayList<>());
            need(best >= 0, new NoSuchElementException());
            return best;
        }

        private int bestFrom(List<Integer> first, List<Integer> chosen) {
            if (chosen.size() == first.size()) {
                int sum = 0;
                for (int literal : chosen) {
                    sum += weightOf[12 + literal];
                }
                return search(chosen, matrix()) == 'e' ? sum : -1;
            }
            int v = first.get(chosen.size());
            chosen.add(v);
            int one = bestFrom(first, chosen);
            chosen.set(chosen.size() - 1, -v);
            int other = bestFrom(first, chosen);
            chosen.remove(chosen.size() - 1);
            return Math.max(one, other);
        }

        boolean far(boolean is) {
            boolean before = isFar;
            isFar = is;
            return before;
        }

        int resolve(int clause, int other, int v) {
            needClause(clause);
            needClause(other);
            needVariable(v);
            List<Integer> first = clauseAs(clause, true);
            List<Integer> second = clauseAs(other, true);
            need(kindOf(v) == 'e' && first.contains(v) && second.contains(-v), new UnsupportedOperationException());
            List<Integer> all = joined(first, second, v);
            for (int literal : all) {
                if (all.contains(-literal)) {
                    need(kindOf(literal) == 'a' && isFar, new UnsupportedOperationException());
                }
            }
            for (int w = 1; w <= blockOf.size(); w++) {
                Set<Integer> here = ofVariable(first, w);
                Set<Integer> there = ofVariable(second, w);
                boolean isAlike = here.size() == 1 && here.equals(there);
                if (kindOf(w) == 'a' && !here.isEmpty() && !there.isEmpty() && !isAlike) {
                    need(block(w) > block(v), new UnsupportedOperationException());
                }
            }
            need(clauses.size() < 40, new IllegalStateException());
            clauses.add(reduce(all, 'a'));
            parents.add(new int[] {clause, other});
            return clauses.size() - 1;
        }

        private static Set<Integer> ofVariable(List<Integer> set, int v) {
            Set<Integer> found = new TreeSet<>();
            for (int literal : set) {
                if (Math.abs(literal) == v) {
                    found.add(literal);
                }
            }
            return found;
        }

        private static List<Integer> joined(List<Integer> first, List<Integer> second, int v) {
            List<Integer> all = new ArrayList<>(first);
            all.addAll(second);
            all.removeIf(literal -> literal == v || literal == -v);
            return sorted(all);
        }

        int term() {
            for (int number : matrix()) {
                need(!Collections.disjoint(clauses.get(number), typed), new UnsupportedOperationException());
            }
            need(terms.size() < 20, new IllegalStateException());
            terms.add(sorted(typed));
            typed.clear();
            return terms.size() - 1;
        }

        int resolveTerms(int term, int other, int v) {
            List<Integer> first = termAs(term, true);
            List<Integer> second = termAs(other, true);
            needVariable(v);
            need(kindOf(v) == 'a' && first.contains(v) && second.contains(-v), new UnsupportedOperationException());
            List<Integer> all = joined(first, second, v);
            for (int literal : all) {
                need(!all.contains(-literal), new UnsupportedOperationException());
            }
            need(terms.size() < 20, new IllegalStateException());
            terms.add(reduce(all, 'e'));
            return terms.size() - 1;
        }

        char proved() {
            for (List<Integer> clause : clauses) {
                if (clause != null && reduce(clause, 'a').isEmpty()) {
                    return 'a';
                }
            }
            for (List<Integer> term : terms) {
                if (reduce(term, 'e').isEmpty()) {
                    return 'e';
                }
            }
            return '-';
        }

        boolean has(int clause, int v) {
            return clauses.get(clause).contains(v) || clauses.get(clause).contains(-v);
        }

        boolean depends(int v, int other) {
            needVariable(v);
            needVariable(other);
            need(kindOf(v) == 'e' && kindOf(other) == 'a' && block(v) > block(other),
                    new UnsupportedOperationException());
            List<Integer> ways = new ArrayList<>();
            for (int number : matrix()) {
                if (has(number, other)) {
                    ways.add(number);
                }
            }
            for (int i = 0; i < ways.size(); i++) {
                if (has(ways.get(i), v)) {
                    return true;
                }
                for (int number : matrix()) {
                    boolean isNext = false;
                    for (int w = 1; w <= blockOf.size(); w++) {
                        isNext |= kindOf(w) == 'e' && block(w) > block(other) && has(number, w) && has(ways.get(i), w);
                    }
                    if (isNext && !ways.contains(number)) {
                        ways.add(number);
                    }
                }
            }
            return false;
        }

        boolean isBlocked(int clause, int literal) {
            needClause(clause);
            needTold(clause);
            need(clauses.get(clause).contains(literal) && kindOf(literal) == 'e', new UnsupportedOperationException());
            for (int number : matrix()) {
                if (clauses.get(number).contains(-literal)) {
                    boolean isMet = false;
                    for (int other : clauses.get(clause)) {
                        isMet |= other != literal && block(other) <= block(literal)
                                && clauses.get(number).contains(-other);
                    }
                    if (!isMet) {
                        return false;
                    }
                }
            }
            return true;
        }

        int held(int clause) {
            needClause(clause);
            needTold(clause);
            for (int number : matrix()) {
                boolean isPart = clauses.get(clause).containsAll(clauses.get(number));
                boolean isAlike = isPart && clauses.get(number).size() == clauses.get(clause).size();
                if (number != clause && isPart && (!isAlike || number < clause)) {
                    return number;
                }
            }
            return -1;
        }

        /** Counts the clauses of both copies, those that are the same in both once. */
        int expands(int v) {
            needVariable(v);
            need(kindOf(v) == 'a', new UnsupportedOperationException());
            for (int w = 1; w <= blockOf.size(); w++) {
                need(kindOf(w) == 'e' || block(w) <= block(v), new UnsupportedOperationException());
            }
            int sum = 0;
            for (int number : matrix()) {
                boolean isCopied = has(number, v);
                for (int w = 1; w <= blockOf.size(); w++) {
                    isCopied |= kindOf(w) == 'e' && block(w) > block(v) && has(number, w);
                }
                if (!isCopied) {
                    sum++;
                    continue;
                }
                sum += clauses.get(number).contains(v) ? 0 : 1;
                sum += clauses.get(number).contains(-v) ? 0 : 1;
            }
            return sum;
        }

        int begin(char taken) {
            need(taken == 'e' || taken == 'a', new IllegalArgumentException());
            side = taken;
            game = noValues();
            return goOn();
        }

        private int next() {
            for (int v : order()) {
                if (game[v] < 0) {
                    return v;
                }
            }
            return 0;
        }

        private int goOn() {
            for (int v = next(); v != 0 && kindOf(v) != side; v = next()) {
                game[v] = 1;
                if (search(game, order(), matrix()) != kindOf(v)) {
                    game[v] = 0;
                }
            }
            return next();
        }

        int move(boolean value) {
            need(game != null && next() != 0, new UnsupportedOperationException());
            game[next()] = value ? 1 : 0;
            return goOn();
        }

        int played(int v) {
            needVariable(v);
            need(game != null, new UnsupportedOperationException());
            return game[v];
        }

        char won() {
            need(game != null && next() == 0, new UnsupportedOperationException());
            return isTrueAll(game) ? 'e' : 'a';
        }

        long checksum() {
            long sum = 7;
            for (List<Integer> clause : clauses) {
                if (clause != null) {
                    sum = 31 * sum + reduce(clause, 'a').size();
                }
            }
            for (List<Integer> term : terms) {
                sum = 31 * sum + reduce(term, 'e').size();
            }
            return 31 * sum + assumed.size();
        }

        float trueShare() {
            int all = 1;
            for (int v = 0; v < blockOf.size(); v++) {
                all *= 2;
            }
            int found = 0;
            for (int bits = 0; bits < all; bits++) {
                found += holds(bits) ? 1 : 0;
            }
            return (float) found / (float) all;
        }

        double meanSize() {
            need(!matrix().isEmpty(), new NoSuchElementException());
            int sum = 0;
            for (int number : matrix()) {
                sum += clauses.get(number).size();
            }
            return (double) sum / (double) matrix().size();
        }
    }
}
