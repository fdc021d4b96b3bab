import java.math.BigInteger;
import java.util.ArrayList;
import java.util.Arrays;
import java.util.List;
import java.util.function.Function;

/**
 * Each sentence of the document's terms, and of its promises' answers, at its edges: the empty and the full, the
 * first and the last, what ends or goes with what. What is refused stands in RefusalsTest.
 */
public final class LimitsTest extends Checks {
    public static void main(String[] args) {
        newObject();
        numberOfCalls();
        blocks();
        variables();
        sides();
        order();
        literals();
        typed();
        clauseNumbers();
        matrix();
        whoWins();
        assumed();
        search();
        budgets();
        reduction();
        propagationBegins();
        propagationSteps();
        resolution();
        bothLiterals();
        overALongDistance();
        dropped();
        provedA();
        termNumbers();
        resolvedTerms();
        termsGo();
        provedE();
        paths();
        blocked();
        held();
        expansion();
        weights();
        bestWish();
        cores();
        playSides();
        playOrder();
        playWon();
        playEnds();
        exceptions();
        values();
        checksums();
        shares();
        means();
        sound();
        allOfThem();
        end();
    }

    /** Each sentence of the terms, from the prefix on, must have been a section here. */
    private static void allOfThem() {
        section("Terms");
        if (places().isEmpty()) {
            return;
        }
        String terms = plain(places().get("Terms"));
        terms = terms.substring(terms.indexOf("The prefix."), terms.indexOf("Ahead of the calls"));
        for (String words : terms.split("(?<=\\.) ")) {
            boolean isHeading = words.split(" ").length < 3;
            boolean isQuoted = quoted("Terms").stream().anyMatch(words::contains);
            due(words, isHeading || isQuoted, true);
        }
    }

    private static void made(String what, Quantifold q, int first, int second, int variable, String want) {
        due(what, answer(() -> text(q, q.resolve(first, second, variable), false)), want);
    }

    // the empty

    private static void newObject() {
        sentence("Promise 1", "Creates a solver without blocks, variables and clauses");
        for (int literal : new int[] {1, -1, 0}) {
            fails("kind", INDEX, () -> new Quantifold().kind(literal));
            fails("type", ARGUMENT, () -> new Quantifold().type(literal));
            fails("assume", ARGUMENT, () -> new Quantifold().assume(literal));
            fails("value", INDEX, () -> new Quantifold().value(literal));
            fails("weight", ARGUMENT, () -> new Quantifold().weight(literal, 1));
            fails("played", INDEX, () -> new Quantifold().played(literal));
            fails("expands", INDEX, () -> new Quantifold().expands(literal));
            fails("depends", INDEX, () -> new Quantifold().depends(literal, 1));
        }
        for (int number : new int[] {0, -1, 39}) {
            fails("variable", INDEX, () -> new Quantifold().variable(number));
            fails("drop", INDEX, () -> new Quantifold().drop(number));
            fails("size", INDEX, () -> new Quantifold().size(number, true));
            fails("literal", INDEX, () -> new Quantifold().literal(number, false, 0));
            fails("resolve", INDEX, () -> new Quantifold().resolve(number, number, 1));
            fails("termSize", INDEX, () -> new Quantifold().termSize(number, true));
            fails("termLiteral", INDEX, () -> new Quantifold().termLiteral(number, false, 0));
            fails("resolveTerms", INDEX, () -> new Quantifold().resolveTerms(number, number, 1));
            fails("isBlocked", INDEX, () -> new Quantifold().isBlocked(number, 1));
            fails("held", INDEX, () -> new Quantifold().held(number));
            due("holds", new Quantifold().holds(number), true);
        }
        due("block", new Quantifold().block('e'), 0);
        due("wipe", new Quantifold().wipe(), 0);
        due("clause", new Quantifold().clause(), 0);
        due("term", new Quantifold().term(), 0);
        due("begin", new Quantifold().begin('e'), 0);
        due("begin", new Quantifold().begin('a'), 0);
        due("solve", new Quantifold().solve(1), 'e');
        newSums(new Quantifold());
    }

    private static void newSums(Quantifold q) {
        due("clauses", q.clauses(), 0);
        due("release", q.release(), 0);
        due("winner", q.winner(), 'e');
        due("positions", q.positions(), 1);
        fails("core", UNSUPPORTED, q::core);
        fails("coreAt", UNSUPPORTED, () -> q.coreAt(0));
        due("conflicts", q.conflicts(), false);
        fails("best", NONE, q::best);
        due("far", q.far(false), false);
        due("terms", q.terms(), 0);
        due("proved", q.proved(), '-');
        fails("move", UNSUPPORTED, () -> q.move(true));
        fails("won", UNSUPPORTED, q::won);
        due("checksum", q.checksum(), 7L * 31);
        due("trueShare", q.trueShare(), 1.0f);
        fails("meanSize", NONE, q::meanSize);
        due("isSound", q.isSound(), true);
        due("nothing of it in another one", new Quantifold().block('a'), 0);
    }

    private static void numberOfCalls() {
        sentence("What it is", "An object is used for at most 512 calls after it has been made");
        Quantifold q = new Quantifold();
        q.block('e');
        q.variable(0);
        for (int call = 2; call < 511; call += 3) {
            q.type(call % 2 == 0 ? 1 : -1);
            q.wipe();
            due("begin", q.begin('e'), 1);
        }
        due("the call 512", q.move(true), 0);
    }

    // prefix and clauses

    private static void blocks() {
        sentence("Terms", "At most 6 blocks are numbered from 0, each of a kind, 'e' some or 'a' all.");
        for (String kinds : new String[] {"eeeeee", "aaaaaa", "eaeaea", "aeaeae", "aaaeee"}) {
            Quantifold q = new Quantifold();
            for (int block = 0; block < 6; block++) {
                due("block", q.block(kinds.charAt(block)), block);
            }
            fails("a seventh", STATE, () -> q.block('e'));
            for (int block = 5; block >= 0; block--) {
                due("its variable", q.kind(q.variable(block)), kinds.charAt(block));
            }
        }
    }

    private static void variables() {
        sentence("Terms", "At most 12 variables are numbered from 1, each of a block.");
        Quantifold one = game("e0 a0 e0");
        for (int v = 1; v <= 12; v++) {
            due("all of a block", one.variable(1), v);
            due("its kind", one.kind(v), 'a');
        }
        Quantifold each = game("e0 a0 e0 a0 e0 a0");
        for (int v = 1; v <= 12; v++) {
            due("of any block", each.variable((13 - v) % 6), v);
        }
        StringBuilder kinds = new StringBuilder();
        for (int v = 1; v <= 12; v++) {
            kinds.append(each.kind(v));
        }
        due("kinds", kinds.toString(), "eaeaeaeaeaea");
        Quantifold last = game("e12", "12", "-12");
        due("12 and its opposite", last.winner(), 'a');
        last.drop(1);
        due("12", last.winner(), 'e');
        due("the bit 11", last.holds(1 << 11), true);
        due("all bits but 11", last.holds(~(1 << 11)), false);
        due("by propagation", last.value(12), 1);
    }

    private static void sides() {
        sentence("Terms", "Variables of 'e' are those of the one side, of 'a' those of the other one.");
        Quantifold q = game("e1 a1 e1 a1");
        due("the first of e", q.begin('e'), 1);
        due("the last of e", q.move(true), 3);
        due("no more of e", q.move(true), 0);
        due("the first of a", q.begin('a'), 2);
        due("the last of a", q.move(true), 4);
        due("no more of a", q.move(true), 0);
    }

    private static void order() {
        sentence("Terms", "They are in order by their blocks, in each by numbers; "
                + "a variable is behind another one if its block has a greater number.");
        // 1 and 3 are of the block 1, 2 and 4 of the block 0.
        Quantifold q = game("e0 e0");
        for (int block : new int[] {1, 0, 1, 0}) {
            q.variable(block);
        }
        due("first of the block 0", q.begin('e'), 2);
        due("then by numbers", q.move(true), 4);
        due("first of the block 1", q.move(true), 1);
        due("then by numbers", q.move(true), 3);
        due("all", q.move(true), 0);
        Quantifold ahead = game("a0 e0 a0");
        ahead.variable(2);
        ahead.variable(1);
        ahead.variable(0);
        clause(ahead, "1 2 3");
        due("a greater number, but ahead", ahead.depends(2, 3), true);
        due("3 stays, 1 does not", text(ahead, 0, true), "2 3");
        fails("1 is behind 2", UNSUPPORTED, () -> ahead.depends(2, 1));
        fails("1 is behind 3", UNSUPPORTED, () -> ahead.expands(3));
        due("none is behind 1", ahead.expands(1), 1);
        due("none is behind one of the same block", game("a3", "1 2").expands(1), 1);
        fails("two blocks of a", UNSUPPORTED, () -> game("a1 e0 a1").expands(1));
        Quantifold six = game("a1 e1 a1 e1 a1 e1", "1 6", "5 6");
        due("the last block is behind the one before", six.depends(6, 5), true);
        due("the last block is behind the first", six.depends(6, 1), true);
        due("a clause with its variable counts twice", six.expands(5), 3);
        Quantifold same = game("e2", "1 2", "-1 -2");
        due("not behind in the same block", same.isBlocked(0, 1) && same.isBlocked(0, 2), true);
        Quantifold next = game("e1 e1", "1 2", "-1 -2");
        due("behind in the next one of e", next.isBlocked(0, 1), false);
        due("ahead in the one before", next.isBlocked(0, 2), true);
    }

    private static void literals() {
        sentence("Terms", "A literal is a variable, or less it for its opposite.");
        Quantifold q = game("e12", "12 -1", "-12 1");
        due("the last", text(q, 0, false), "-1 12");
        due("its opposite", text(q, 1, false), "1 -12");
        for (int literal : new int[] {0, 13, -13}) {
            fails("type " + literal, ARGUMENT, () -> q.type(literal));
        }
        sentence("Promise 11", "the index, from 0, by the numbers of variables, one ahead of its opposite");
        Quantifold mixed = game("e2 a1 e2", "5 -3 2 -4 1", "1 3 4", "-1 -3 4");
        due("in another order than typed", text(mixed, 0, false), "1 2 -3 -4 5");
        mixed.far(true);
        made("one ahead of its opposite", mixed, 1, 2, 1, "3 -3 4");
    }

    private static void typed() {
        sentence("Terms", "Literals are typed, at most 8, no variable twice.");
        Quantifold q = game("e12");
        for (int round = 0; round < 2; round++) {
            for (int i = 1; i <= 8; i++) {
                int literal = (i % 2 == round ? 1 : -1) * (13 - i);
                due("typed", q.type(literal), i);
                fails("the same", UNSUPPORTED, () -> q.type(literal));
                fails("the opposite", UNSUPPORTED, () -> q.type(-literal));
            }
            fails("a ninth", STATE, () -> q.type(1));
            sentence("Promise 6", "Returns how many literals there were");
            due("all", q.wipe(), 8);
            due("none", q.wipe(), 0);
        }
        sentence("Promise 7", "Tells a clause, of what is typed, perhaps nothing, which is wiped then");
        type(q, "1 2 3 4 -5 -6 -7 -8");
        due("of eight", q.clause(), 0);
        due("wiped", q.wipe(), 0);
        due("of nothing", q.clause(), 1);
        due("eight", text(q, 0, false), "1 2 3 4 -5 -6 -7 -8");
        due("nothing", text(q, 1, false), "");
        due("all can be typed again", q.type(-1), 1);
    }

    private static void clauseNumbers() {
        sentence("Terms", "A clause takes them; at most 40 are numbered from 0, told ones, those that were typed, "
                + "and made ones, which come by resolution.");
        Quantifold q = game("e3", "1 2", "-1 3");
        for (int number = 2; number < 40; number += 2) {
            due("made", q.resolve(0, 1, 1), number);
            due("told", clause(q, number < 38 ? "1 -2 3" : "-3"), number + 1);
        }
        fails("41 told", STATE, q::clause);
        fails("41 made", STATE, () -> q.resolve(0, 1, 1));
        due("the last made one", text(q, 38, false), "2 3");
        due("the last told one", text(q, 39, false), "-3");
        due("it counts in the matrix", q.value(3), 0);
        due("dropped", q.drop(39), 1);
        due("and then not, 3 has no opposite any more", q.value(3), 1);
        due("no other one", q.size(7, false), 3);
        // Numbers from 32 on must not be taken for those 32 less.
        due("33", q.drop(33), 1);
        due("1 is there", q.size(1, false), 2);
        due("1 takes all that was made", q.drop(1), 20);
        due("35 is there", q.size(35, false), 3);
    }

    private static void matrix() {
        sentence("Terms", "The matrix are all told clauses that were not dropped.");
        Quantifold q = game("e2");
        due("empty", q.clauses(), 0);
        for (int number = 0; number < 40; number++) {
            q.clause();
            due("told", q.clauses(), number + 1);
        }
        for (int number = 0; number < 40; number++) {
            q.drop(39 - number);
            due("dropped", q.clauses(), 39 - number);
        }
        Quantifold made = game("e2", "1", "-1 2");
        made.resolve(0, 1, 1);
        due("made ones are not of it", made.clauses(), 2);
        due("their literals must not be true", made.holds(0), false);
        made.drop(1);
        due("none but 0", made.clauses(), 1);
        due("1 is enough", made.holds(1), true);
    }

    // the winner

    private static void whoWins() {
        sentence("Terms", "As the variables get values in their order, 'e' wins if each clause of the matrix has a "
                + "true literal at the end, otherwise 'a'.");
        for (String prefix : new String[] {"", "e0", "a0", "e1", "a1", "e2 a2 e2 a2 e2 a2", "a12", "e12"}) {
            due("no clauses, " + prefix, game(prefix).winner(), 'e');
            due("an empty one, " + prefix, game(prefix, "").winner(), 'a');
            Quantifold q = game(prefix, "", "");
            q.drop(0);
            due("still an empty one, " + prefix, q.winner(), 'a');
            q.drop(1);
            due("none any more, " + prefix, q.winner(), 'e');
        }
        due("e can", game("a1 e1", "1 2", "-1 -2").winner(), 'e');
        due("e cannot know", game("e1 a1", "1 2", "-1 -2").winner(), 'a');
        String[] eight = {"1 2 3 4 5 6 7 8"};
        due("eight of a", game("a8", eight).winner(), 'a');
        due("one of e", game("a7 e1", eight).winner(), 'e');
        due("one of e, first", game("e1 a7", eight).winner(), 'e');
        String[] forty = new String[40];
        for (int i = 0; i < 40; i++) {
            forty[i] = i < 39 ? "1" : "-1";
        }
        Quantifold full = game("e1", forty);
        due("the last one of forty", full.winner(), 'a');
        full.drop(39);
        due("without it", full.winner(), 'e');
    }

    private static void assumed() {
        sentence("Terms", "The winner is who can win whatever the other one does, with the literals that are assumed "
                + "true, all of variables of the block 0, if this is of 'e'.");
        Quantifold q = game("e2 a1 e1", "1 2 3", "-1 -2 4");
        due("nothing assumed", q.winner(), 'e');
        assume(q, -1);
        due("one", q.winner(), 'e');
        assume(q, -2);
        due("both", q.winner(), 'a');
        due("released", q.release() + "" + q.winner(), "2e");
        sentence("Promise 13", "Returns how many are assumed");
        Quantifold twelve = game("e12", "1 2 3 4 5 6 7 8", "9 10 11 12");
        for (int v = 1; v <= 11; v++) {
            due("assumed", twelve.assume(v % 2 == 0 ? -v : v), v);
        }
        due("eleven", twelve.winner(), 'e');
        due("the twelfth", twelve.assume(12), 12);
        sentence("Promise 14", "Returns how many there were");
        due("all", twelve.release(), 12);
        due("none", twelve.release(), 0);
        due("again", twelve.assume(-12), 1);
    }

    private static void search() {
        sentence("Terms", "The search goes so: a position counts one; if some clause of the matrix has false literals "
                + "alone, 'a' wins there; otherwise, if each has a true one, 'e' does; otherwise the first variable "
                + "without a value, in their order, becomes true, and, unless the side to which it belongs wins by "
                + "that, false.");
        due("no clauses", game("e6 a6").positions(), 1);
        due("an empty one", game("e6 a6", "1", "").positions(), 1);
        due("e wins by true", game("e1", "1").positions(), 2);
        due("e wins by false", game("e1", "-1").positions(), 3);
        due("e loses by both", game("e1 a1", "1", "-1").positions(), 3);
        due("a wins by true", game("a1", "-1").positions(), 2);
        due("a wins by false", game("a1", "1").positions(), 3);
        due("a loses by both", game("a1 e1", "1 2", "-1 2").positions(), 5);
        due("the last one decides for e", game("e12", "-12").positions(), 14);
        due("the last one decides for a", game("a12", "12").positions(), 14);
        due("each is tried", game("e12", "12", "-12").positions(), 8191);
        due("each of a is tried, e wins by true", game("a11 e1", "12 11", "12 -11").positions(), 4095 + 2048);
        due("each of e is tried, a wins by true", game("e1 a11", "12", "-12").positions(), 1 + 12 + 12);
        due("decided by the first", game("e12", "1").positions(), 2);
        Quantifold order = game("e0 a0");
        order.variable(1);
        order.variable(0);
        clause(order, "2 1");
        due("in their order, not by numbers", order.positions(), 2);
        Quantifold made = game("e2", "1 2", "-1 2");
        int before = made.positions();
        made.resolve(0, 1, 1);
        due("made ones count not", made.positions(), before);
        sentence("Terms", "Assumed ones have their values from the beginning.");
        Quantifold q = game("e2 a1", "1 2", "-2 3");
        due("nothing assumed", q.positions(), 6);
        assume(q, 2);
        due("2", q.positions(), 7);
        assume(q, 1);
        due("both", q.positions(), 3);
        q.release();
        assume(q, -1, -2);
        due("a wins from the beginning", q.positions(), 1);
        q.release();
        assume(q, 1, -2);
        due("e wins from the beginning", q.positions(), 1);
    }

    private static void budgets() {
        sentence("Promise 17", "how many positions may be counted, 1 to 9999");
        Quantifold most = game("e12", "12", "-12");
        due("one less", most.solve(8190), '?');
        due("as many", most.solve(8191), 'a');
        due("one more", most.solve(8192), 'a');
        due("9999", most.solve(9999), 'a');
        due("1", most.solve(1), '?');
        due("1 for one", game("e12").solve(1), 'e');
        Quantifold three = game("e1", "-1");
        due("2 for three", three.solve(2), '?');
        due("3 for three", three.solve(3), 'e');
        assume(three, 1);
        due("1 with what is assumed", three.solve(1), 'a');
    }

    // reduction and propagation

    private static void reduction() {
        sentence("Terms", "A clause reduced has no literals of 'a' behind which there is no literal of 'e' in it; "
                + "a term reduced has none of 'e' behind which there is none of 'a' in it.");
        String[][] clauses = {
            {"", ""}, {"1", "1"}, {"2", ""}, {"2 3 5", ""}, {"1 2 3", "1"}, {"2 4", "2 4"}, {"-3 4", "-3 4"},
            {"1 2 3 5", "1"}, {"4 5", "4"}, {"2 4 5", "2 4"}, {"5 6", "5 6"}, {"1 -2 4 -5 6", "1 -2 4 -5 6"},
            {"1 2 7", "1"}, {"6 7 1", "1 6"}
        };
        Quantifold q = game("e1 a2 e1 a1 e1 a1");
        for (String[] one : clauses) {
            int number = clause(q, one[0]);
            due("clause " + one[0], text(q, number, true), one[1]);
            due("its size", q.size(number, true), one[1].isEmpty() ? 0 : one[1].split(" ").length);
            due("as it was told", q.size(number, false), one[0].isEmpty() ? 0 : one[0].split(" ").length);
        }
        String[][] terms = {
            {"", ""}, {"1", ""}, {"2", "2"}, {"1 2", "1 2"}, {"1 4 6", ""}, {"2 4", "2"}, {"3 4 5", "3 4 5"},
            {"1 4 -5 6", "1 4 -5"}, {"6 7", "6 7"}, {"1 6", ""}, {"-1 -2 -4", "-1 -2"}
        };
        Quantifold t = game("e1 a2 e1 a1 e1 a1");
        for (String[] one : terms) {
            int number = term(t, one[0]);
            due("term " + one[0], termText(t, number, true), one[1]);
            due("its size", t.termSize(number, true), one[1].isEmpty() ? 0 : one[1].split(" ").length);
            due("as it was told", t.termSize(number, false), one[0].isEmpty() ? 0 : one[0].split(" ").length);
        }
        Quantifold same = game("a1 a1 e1 e1", "1 2", "1 2 3", "3 4");
        due("two blocks of a", text(same, 0, true), "");
        due("two blocks of a ahead of e", text(same, 1, true), "1 2 3");
        due("two blocks of e", text(same, 2, true), "3 4");
    }

    private static void propagationBegins() {
        sentence("Terms", "It begins with what is assumed.");
        Quantifold q = game("e3", "1 2 3");
        due("pure ones", values(q, 3), "1--");
        assume(q, -1, -3);
        due("assumed", values(q, 3), "010");
        assume(q, -2);
        due("all assumed", values(q, 3), "000");
        due("a conflict at once", q.conflicts(), true);
        due("released", q.release(), 3);
        due("none any more", q.conflicts(), false);
        Quantifold none = game("e2 a1");
        assume(none, 2);
        due("no clauses", values(none, 3), "-1-");
        due("no conflict", none.conflicts(), false);
    }

    private static void propagationSteps() {
        sentence("Terms", "As long as it can, it does the first of three things, each looked for in all of the "
                + "matrix: a clause, by numbers, without a true literal, of which what is without a value, reduced, "
                + "is nothing, is a conflict, which ends it; one, by numbers, of which this is one literal makes that "
                + "true; a variable, by numbers, without a value, that is in clauses of the matrix without a true "
                + "literal by one of both literals alone, gets the value that makes this literal true for one of 'e', "
                + "false for one of 'a'.");
        String[] chain = new String[13];
        for (int v = 1; v <= 12; v++) {
            chain[12 - v] = v == 1 ? "1" : (1 - v) + " " + v;
        }
        chain[12] = "-11 -12";
        Quantifold twelve = game("e12", chain);
        due("twelve steps, then a conflict", values(twelve, 12), "111111111111");
        due("it conflicts", twelve.conflicts(), true);
        twelve.drop(12);
        due("twelve steps, no conflict", values(twelve, 12) + twelve.conflicts(), "111111111111false");
        due("a conflict goes ahead of all", values(game("e2", "1", "2 1", ""), 2), "--");
        due("so does one by reduction", values(game("e1 a1", "1", "2"), 2), "--");
        due("the lowest of units", values(game("e2", "1 2", "-2", "-1"), 2), "10");
        due("a unit goes ahead of pure ones", values(game("e3", "1 2", "1 -3", "-2"), 3), "10-");
        due("a unit by reduction", values(game("e1 a1 e1", "1 2", "-1 2 3", "-1 -2 -3"), 3), "1--");
        due("what has no value, reduced", values(game("e1 a1 e1", "-3", "1 2 3", "-1 -2 3"), 3), "1-0");
        due("pure, of e", values(game("e3", "1 -2", "1 -3", "2 3", "-2 -3 1"), 3), "11-");
        due("pure by the opposite, of e", values(game("e2", "-1 2", "-1 -2"), 2), "0-");
        due("pure, of a", values(game("a1 e2", "1 2 3", "1 -2 -3"), 3), "0--");
        due("pure by the opposite, of a", values(game("a1 e2", "-1 2 3", "-1 -2 -3"), 3), "1--");
        due("the lowest pure one", values(game("e2", "1 2"), 2), "1-");
        due("the lowest pure one of twelve", values(game("e12", "1 12"), 12), "1-----------");
        due("the last one is pure", values(game("e12", "11 12", "-11 12"), 12), "-----------1");
        due("clauses with a true literal count not", values(game("e3", "1", "-2 1", "2 3", "-2 1", "2 -3"), 3), "11-");
        due("a variable in no clause", values(game("e2", "1"), 2), "1-");
        Quantifold gone = game("e2", "1 2", "-1 2");
        gone.resolve(0, 1, 1);
        gone.drop(0);
        due("dropped ones count not", values(gone, 2), "0-");
        Quantifold made = game("e1", "1", "-1");
        made.resolve(0, 1, 1);
        due("a conflict of told ones", values(made, 1), "1");
        sentence("Promise 21", "Returns 1 true, 0 false, -1 none");
        Quantifold three = game("e3", "1", "-2");
        due("true", three.value(1), 1);
        due("false", three.value(2), 0);
        due("none", three.value(3), -1);
    }

    // proofs

    private static void resolution() {
        sentence("Terms", "Two clauses, both taken reduced, are resolved by a variable of 'e', the first one having "
                + "it, the second one its opposite: what comes is all other literals of both, reduced then.");
        Quantifold q = game("e2 a1 e1 a1", "1", "-1", "1 2 3", "-1 3 4 -5", "-4 2 5", "-1 2");
        made("to nothing", q, 0, 1, 1, "");
        made("the first one is all", q, 0, 3, 1, "3 4");
        made("the first one reduced, the second one too", q, 2, 3, 1, "2 3 4");
        made("reduced then", q, 3, 4, 4, "-1 2");
        made("alike ones once", q, 2, 5, 1, "2");
        made("made ones", q, 7, 4, 4, "2");
        due("proved by the first of them", q.proved(), 'a');
        Quantifold reduced = game("e1 a1 e1", "1 2", "-1 -2 3", "1 -2 3", "-1 2", "-1 3", "1 3");
        made("the first one reduced ahead of the rest", reduced, 0, 4, 1, "3");
        made("the second one reduced ahead of the rest", reduced, 5, 3, 1, "3");
        made("the first one has no 2 that is against -2", reduced, 0, 1, 1, "-2 3");
        made("the second one has no 2 that is against -2", reduced, 2, 3, 1, "-2 3");
        // Eight and eight literals: what comes may have more than are typed.
        Quantifold full = game("e12", "1 2 3 4 5 6 7 8", "-1 5 6 7 8 9 10 11");
        made("ten literals", full, 0, 1, 1, "2 3 4 5 6 7 8 9 10 11");
        due("its size", full.size(2, false), 10);
        fails("behind its last", NONE, () -> full.literal(2, false, 10));
    }

    private static void bothLiterals() {
        sentence("Terms", "Ahead of that reducing, no variable of 'e' may be in it with both literals.");
        Quantifold q = game("e3", "1 2 3", "-1 -2", "-1 2 -3", "-1 2");
        for (boolean isFar : new boolean[] {false, true}) {
            q.far(isFar);
            fails("2", UNSUPPORTED, () -> q.resolve(0, 1, 1));
            fails("3", UNSUPPORTED, () -> q.resolve(0, 2, 1));
        }
        made("the same one", q, 0, 3, 1, "2 3");
        Quantifold behind = game("e1 a1 e1", "1 3", "-1 -3");
        behind.far(true);
        fails("behind the one by which they are resolved", UNSUPPORTED, () -> behind.resolve(0, 1, 1));
        sentence("Terms", "If the long distance is off, which it is at first, no variable of 'a' may be in it with both "
                + "literals either, ahead of the reducing.");
        Quantifold off = game("e1 a1 e1", "1 2 3", "-1 -2 3", "2 3", "-2 -3", "-1 2 3");
        fails("at first", UNSUPPORTED, () -> off.resolve(0, 1, 1));
        fails("though it would be reduced", UNSUPPORTED, () -> off.resolve(2, 3, 3));
        made("the same one", off, 0, 4, 1, "2 3");
        sentence("Promise 24", "Returns whether it was");
        due("off", off.far(false), false);
        due("off still", off.far(true), false);
        due("on", off.far(true), true);
        due("on still", off.far(false), true);
        fails("off again", UNSUPPORTED, () -> off.resolve(0, 1, 1));
    }

    private static void overALongDistance() {
        sentence("Terms", "One of 'a' may only over a long distance: a variable of 'a' that both have, but not both by "
                + "the same one literal alone, must be behind the one by which they are resolved; it has both literals "
                + "then.");
        Quantifold q = game("e2 a1 e3", "1 3 4", "-1 -3 4", "-4 5", "-4 3 5", "-4 -3 5", "1 2 3 4", "-1 2 -3 4",
                "-2 3 5", "1 -2 3 5", "-1 -2 -3 5", "1 3 -4 5", "-1 -3 -4 5", "3 4");
        q.far(true);
        made("both literals, behind", q, 0, 1, 1, "3 -3 4");
        made("both literals, behind, 2 stays", q, 5, 6, 1, "2 3 -3 4");
        made("both literals, behind, the opposite of 2 stays", q, 8, 9, 1, "-2 3 -3 5");
        made("both literals, behind, the opposite of 4 stays", q, 10, 11, 1, "3 -3 -4 5");
        fails("both literals, ahead", UNSUPPORTED, () -> q.resolve(12, 4, 4));
        made("one alone has both, ahead", q, 13, 2, 4, "3 -3 5");
        fails("one has both, the other one has 3, ahead", UNSUPPORTED, () -> q.resolve(13, 3, 4));
        fails("one has both, the other one the opposite of 3, ahead", UNSUPPORTED, () -> q.resolve(13, 4, 4));
        fails("one has 3, the other one both, ahead", UNSUPPORTED, () -> q.resolve(12, 16, 4));
        made("one has both, the other one has 3, behind", q, 14, 7, 2, "3 -3 4 5");
        fails("both have both, ahead", UNSUPPORTED, () -> q.resolve(13, 16, 4));
        made("both have both, behind", q, 14, 15, 2, "3 -3 4 5");
        made("both by the same one alone, ahead", q, 12, 3, 4, "3 5");
        q.far(false);
        fails("off, one alone has both", UNSUPPORTED, () -> q.resolve(13, 2, 4));
        made("off, both by the same one alone", q, 12, 3, 4, "3 5");
    }

    private static void dropped() {
        sentence("Terms", "A dropped clause takes all made ones with it that come from it.");
        sentence("Promise 8", "Returns how many clauses go");
        Quantifold q = game("e4", "1 2", "-1 2", "-2 3", "-3 4", "-4");
        made("of 0 and 1", q, 0, 1, 1, "2");
        made("of that and 2", q, 5, 2, 2, "3");
        made("of 2 and 3", q, 2, 3, 3, "-2 4");
        made("of 3 and 4", q, 3, 4, 4, "-3");
        made("of 6 and 8", q, 6, 8, 3, "");
        due("proved", q.proved(), 'a');
        due("4, 8, 9", q.drop(4), 3);
        due("no proof is left", q.proved(), '-');
        due("7 stays", q.size(7, false), 2);
        due("6 stays", q.size(6, false), 1);
        due("2, 6, 7", q.drop(2), 3);
        due("5 stays", q.size(5, false), 1);
        due("3 alone, what came from it went", q.drop(3), 1);
        due("1, 5", q.drop(1), 2);
        due("0 alone", q.drop(0), 1);
        for (int clause = 0; clause < 10; clause++) {
            int number = clause;
            fails("none is left", INDEX, () -> q.size(number, false));
        }
        due("the next number", q.clause(), 10);
        Quantifold all = game("e2", "1", "-1 2");
        for (int number = 2; number < 40; number++) {
            made("made", all, 0, 1, 1, "2");
        }
        due("39", all.drop(1), 39);
        due("one", all.drop(0), 1);
    }

    private static void provedA() {
        sentence("Terms", "The side 'a' is proved if there is a clause that is nothing, reduced.");
        due("no clauses", game("a1").proved(), '-');
        due("nothing", game("e1", "").proved(), 'a');
        due("of a alone", game("e1 a2", "2 -3").proved(), 'a');
        due("of a alone, the last one", game("e1 a1", "1", "1 2", "-2").proved(), 'a');
        due("one of e", game("a1 e1", "1 2").proved(), '-');
        Quantifold q = game("e1", "1", "-1");
        due("not yet", q.proved(), '-');
        q.resolve(0, 1, 1);
        due("made", q.proved(), 'a');
        Quantifold full = game("e1");
        for (int number = 0; number < 39; number++) {
            clause(full, "1");
        }
        due("not by 39", full.proved(), '-');
        full.clause();
        due("by the last of forty", full.proved(), 'a');
        full.drop(39);
        due("dropped", full.proved(), '-');
    }

    private static void termNumbers() {
        sentence("Terms", "A term takes what is typed, if each clause of the matrix has a literal of it; "
                + "at most 20 are numbered from 0, those made counted.");
        Quantifold q = game("a1 e1", "1 2", "-1 -2");
        due("0", term(q, "1 -2"), 0);
        due("1", term(q, "-1 2"), 1);
        for (int number = 2; number < 20; number++) {
            due("made or told", number % 3 == 0 ? term(q, "2 -1") : q.resolveTerms(0, 1, 1), number);
            due("terms", q.terms(), number + 1);
        }
        type(q, "1 -2");
        fails("21 told", STATE, q::term);
        fails("21 made", STATE, () -> q.resolveTerms(0, 1, 1));
        due("what is typed stays", q.wipe(), 2);
        Quantifold eight = game("e4 a4");
        due("nothing, no clauses", eight.term(), 0);
        due("eight, no clauses", term(eight, "1 2 3 4 -5 6 7 8"), 1);
        due("all of them", termText(eight, 1, true), "1 2 3 4 -5 6 7 8");
        Quantifold gone = game("e2", "1", "2", "-1 2");
        gone.resolve(0, 2, 1);
        fails("2 has none", UNSUPPORTED, () -> term(gone, "1"));
        gone.drop(2);
        gone.drop(1);
        due("dropped ones need none", gone.term(), 0);
        Quantifold made = game("e2", "1", "-1 2");
        made.resolve(0, 1, 1);
        due("made ones need none", term(made, "1 2"), 0);
        sentence("Promise 26", "Tells a term, of what is typed, which is wiped then");
        due("wiped", made.wipe(), 0);
    }

    private static void resolvedTerms() {
        sentence("Terms", "Two terms, both taken reduced, are resolved by a variable of 'a', the first one having it, "
                + "the second one its opposite: what comes is all other literals of both, reduced then; ahead of that, "
                + "no variable may be in it with both literals.");
        Quantifold reduced = game("a1 e1 a1");
        for (String one : new String[] {"1 2", "-1 3", "1 3", "-1 -2", "-1 -2 3", "1 2 3"}) {
            term(reduced, one);
        }
        due("the first one reduced", termText(reduced, reduced.resolveTerms(0, 1, 1), false), "3");
        due("the second one reduced", termText(reduced, reduced.resolveTerms(2, 3, 1), false), "3");
        due("no 2 in the first one", termText(reduced, reduced.resolveTerms(0, 4, 1), false), "-2 3");
        due("no -2 in the second one", termText(reduced, reduced.resolveTerms(5, 3, 1), false), "2 3");
        Quantifold q = game("e1 a2 e1 a1");
        String[] terms = {"2", "-2", "1 2 4", "-2 3 -4", "2 -3 1", "-1 -2", "1 -2 4 5", "2 3 4", "-5 1 2"};
        for (String one : terms) {
            term(q, one);
        }
        String[][] made = {
            {"0", "1", "2", ""}, {"2", "1", "2", ""}, {"2", "3", "2", "1 3"}, {"7", "3", "2", "3"},
            {"6", "8", "5", "no"}, {"4", "3", "2", "no"}, {"2", "5", "2", "no"}, {"7", "6", "2", "1 3 4 5"},
            {"1", "0", "2", "no"}, {"2", "6", "2", "1 4 5"}
        };
        for (String[] one : made) {
            Object got = answer(() -> termText(q, q.resolveTerms(Integer.parseInt(one[0]), Integer.parseInt(one[1]),
                    Integer.parseInt(one[2])), false));
            due(one[0] + " " + one[1] + " by " + one[2], got, one[3].equals("no") ? UNSUPPORTED : one[3]);
        }
    }

    private static void termsGo() {
        sentence("Terms", "As a clause is told, all terms are gone, and their numbers begin anew.");
        Quantifold q = game("a1 e1", "1 2");
        for (int number = 0; number < 20; number++) {
            term(q, "1");
        }
        due("twenty", q.terms(), 20);
        q.far(true);
        q.begin('e');
        due("nothing else takes them", q.terms(), 20);
        due("nor a dropped clause", q.drop(0) + q.terms(), 21);
        due("nor a refused one", answer(() -> q.type(3)), ARGUMENT);
        due("still", q.terms(), 20);
        due("told", clause(q, "2"), 1);
        due("gone", q.terms(), 0);
        fails("the first", INDEX, () -> q.termSize(0, false));
        fails("the last", INDEX, () -> q.termLiteral(19, false, 0));
        for (int number = 0; number < 20; number++) {
            due("anew", term(q, "2"), number);
        }
        due("the first one is another one", termText(q, 0, false), "2");
        due("nothing is told too", q.clause() + q.terms(), 2);
        Quantifold wider = game("e1", "1");
        term(wider, "1");
        wider.block('a');
        wider.variable(1);
        due("a block and a variable leave them", wider.terms(), 1);
        Quantifold made = game("e1", "1", "1", "-1");
        made.drop(2);
        term(made, "1");
        made.drop(1);
        due("a dropped one leaves them", made.terms(), 1);
    }

    private static void provedE() {
        sentence("Terms", "The side 'e' is proved if there is a term that is nothing, reduced.");
        due("no terms", game("e1", "1").proved(), '-');
        Quantifold none = game("a1");
        none.term();
        due("nothing", none.proved(), 'e');
        Quantifold some = game("e1 a1", "1 2");
        term(some, "2");
        due("one of a", some.proved(), '-');
        term(some, "1 2");
        due("one of a behind", some.proved(), '-');
        term(some, "1");
        due("of e alone", some.proved(), 'e');
        Quantifold last = game("a1 e1", "1 2", "-1 -2");
        for (int number = 0; number < 19; number++) {
            term(last, number % 2 == 0 ? "1 -2" : "-1 2");
        }
        due("not by 19", last.proved(), '-');
        last.resolveTerms(0, 1, 1);
        due("by the last of twenty", last.proved(), 'e');
        last.drop(0);
        due("a dropped clause leaves it", last.proved(), 'e');
        clause(last, "1 2");
        due("a clause told does not", last.proved(), '-');
        sentence("Promise 31", "Returns 'e', 'a', or '-'");
        due("neither", new Quantifold().proved(), '-');
    }

    // looks

    private static void paths() {
        sentence("Terms", "A variable of 'e' depends on one of 'a' ahead of it if clauses of the matrix lead from the "
                + "one to the other: the first has the variable of 'a', the last that of 'e', each two one behind the "
                + "other have a variable of 'e' in common that is behind that of 'a'; it may be one clause.");
        due("no clauses", game("a1 e1").depends(2, 1), false);
        due("one clause", game("a1 e1", "1 2").depends(2, 1), true);
        due("one clause, by the opposites", game("a1 e1", "-1 -2").depends(2, 1), true);
        due("one has it, the other one the variable", game("a1 e1", "1", "2").depends(2, 1), false);
        due("two", game("a1 e2", "1 2", "-2 3").depends(3, 1), true);
        due("a variable of a in common", game("a2 e2", "1 2", "2 3").depends(3, 1), false);
        due("one of a behind in common", game("a1 e1 a1 e1", "1 3", "3 4").depends(4, 1), false);
        due("one of e ahead in common", game("e1 a1 e1", "1 2", "1 3").depends(3, 2), false);
        due("one of e behind that of a, but behind the other too", game("a1 e1 e1", "1 3", "3 2").depends(2, 1), true);
        String[] back = {"12 11", "11 10", "10 9", "9 8", "8 7", "7 6", "6 5", "5 4", "4 3", "3 2", "2 1"};
        Quantifold chain = game("a1 e11", back);
        due("eleven, against their numbers", chain.depends(12, 1), true);
        chain.drop(5);
        due("one is dropped", chain.depends(12, 1), false);
        due("up to it", chain.depends(6, 1), true);
        due("behind it", chain.depends(7, 1), false);
        Quantifold made = game("e1 a1 e2", "1 2 4", "-1 3");
        made.resolve(0, 1, 1);
        due("made ones lead nowhere", made.depends(3, 2), false);
    }

    private static void blocked() {
        sentence("Terms", "A clause is blocked by a literal of 'e' in it if with each clause of the matrix that has "
                + "its opposite, some variable, other than its own, and not behind this, is in the one by one literal "
                + "and in the other one by the opposite.");
        due("none has its opposite", game("e1", "1").isBlocked(0, 1), true);
        due("its own is not enough", game("e1", "1", "-1").isBlocked(0, 1), false);
        due("another one", game("e2", "1 2", "-1 -2").isBlocked(0, 1), true);
        due("by the same literal", game("e2", "1 2", "-1 2").isBlocked(0, 1), false);
        due("in one of two", game("e2", "1 2", "-1 -2", "-1").isBlocked(0, 1), false);
        due("in both", game("e3", "1 2 3", "-1 -2", "-1 -3").isBlocked(0, 1), true);
        due("one of a ahead", game("a1 e1", "1 2", "-1 -2").isBlocked(0, 2), true);
        due("one of a behind", game("e1 a1", "1 2", "-1 -2").isBlocked(0, 1), false);
        due("one of e behind", game("e1 a1 e1", "1 3", "-1 -3").isBlocked(0, 1), false);
        due("by an opposite", game("e2", "-1 2", "1 -2").isBlocked(0, -1), true);
        Quantifold q = game("e2", "1 2", "-1 2", "-1 -2");
        due("1 is in the way", q.isBlocked(0, 1), false);
        q.drop(1);
        due("dropped", q.isBlocked(0, 1), true);
        Quantifold made = game("e3", "1 2", "2 3", "-1 -2 3");
        made("without 2", made, 1, 2, 2, "-1 3");
        due("made ones are not in the way", made.isBlocked(0, 1), true);
        String[] forty = new String[40];
        for (int i = 0; i < 40; i++) {
            forty[i] = i == 0 ? "1 2" : i < 39 ? "-1 -2" : "-1";
        }
        Quantifold full = game("e2", forty);
        due("the last of forty is in the way", full.isBlocked(0, 1), false);
        full.drop(39);
        due("without it", full.isBlocked(0, 1), true);
    }

    private static void held() {
        sentence("Terms", "A clause is held by another one of the matrix that has no literals but those of it, of like "
                + "ones the one with the lower number holds.");
        sentence("Promise 34", "Returns the lowest number, -1 for none");
        due("one alone", game("e1", "1").held(0), -1);
        due("nothing alone", game("e1", "").held(0), -1);
        Quantifold nothing = game("e2", "1 2", "", "");
        due("by nothing, the lowest", nothing.held(0), 1);
        due("nothing by nothing with a higher number", nothing.held(1), -1);
        due("nothing by nothing with a lower number", nothing.held(2), 1);
        Quantifold like = game("e2", "1 2", "2 1", "1 2");
        due("the lowest of like ones", like.held(0), -1);
        due("the second", like.held(1), 0);
        due("the third", like.held(2), 0);
        like.drop(0);
        due("the second is the lowest now", like.held(1), -1);
        due("and holds the third", like.held(2), 1);
        due("not by the opposite", game("e2", "1 2", "-1").held(0), -1);
        due("not by one with more", game("e2", "1", "1 2").held(0), -1);
        due("by one with a higher number", game("e2", "1 2", "1").held(0), 1);
        due("as told, not reduced", game("e1 a1", "1", "1 2").held(0), -1);
        Quantifold made = game("e2", "1 2", "-1 2");
        made.resolve(0, 1, 1);
        due("not by made ones", made.held(0), -1);
        String[] forty = new String[40];
        Arrays.fill(forty, "1 2 3 4 5 6 7 8");
        Quantifold full = game("e8", forty);
        due("the last of forty", full.held(39), 0);
        for (int number = 0; number < 38; number++) {
            full.drop(number);
        }
        due("the last of two", full.held(39), 38);
        full.drop(38);
        due("the last one", full.held(39), -1);
    }

    private static void expansion() {
        sentence("Terms", "Expansion by a variable of 'a' behind which there are no others of 'a' would put the matrix "
                + "twice, once with it true and once false, the variables of 'e' behind it being other ones the second "
                + "time: clauses without such variables, and without this one, count once, the others as often as they "
                + "are not true by it.");
        due("no clauses", game("a1").expands(1), 0);
        due("nothing", game("a1 e1", "").expands(1), 1);
        due("the variable alone", game("a1 e1", "1").expands(1), 1);
        due("its opposite alone", game("a1 e1", "-1").expands(1), 1);
        due("one of e behind", game("a1 e1", "2").expands(1), 2);
        due("it and one of e behind", game("a1 e1", "1 -2").expands(1), 1);
        due("one of e ahead", game("e1 a1 e1", "1").expands(2), 1);
        due("one of e ahead, one behind", game("e1 a1 e1", "1 3").expands(2), 2);
        due("one of a ahead", game("a1 e1 a1 e1", "1").expands(3), 1);
        due("one of a in its block", game("a2 e1", "2").expands(1), 1);
        due("two blocks of e behind", game("a1 e1 e1", "2", "3").expands(1), 4);
        Quantifold made = game("a1 e2", "2 3", "-2 3");
        made.resolve(0, 1, 2);
        due("made ones count not", made.expands(1), 4);
        made.drop(1);
        due("dropped ones count not", made.expands(1), 2);
        clause(made, "2");
        due("one behind a dropped and a made one", made.expands(1), 4);
        String[] forty = new String[40];
        Arrays.fill(forty, "2");
        due("forty", game("a1 e1", forty).expands(1), 80);
    }

    // wishes and cores

    private static void weights() {
        sentence("Terms", "Literals of variables of the block 0, if it is of 'e', can have a weight, 1 to 99, each "
                + "literal one.");
        Quantifold q = game("e12");
        for (int v = 1; v <= 12; v++) {
            due("none before", q.weight(v, v == 12 ? 99 : v), 0);
            due("none before, its opposite", q.weight(-v, 99 - v), 0);
        }
        sentence("Promise 22", "Returns the one before");
        for (int v = 1; v <= 12; v++) {
            due("its own", q.weight(v, 1), v == 12 ? 99 : v);
            due("its opposite's own", q.weight(-v, 0), 99 - v);
            due("the last one told", q.weight(v, 99), 1);
            due("none", q.weight(-v, 99), 0);
        }
        due("all of them", q.best(), 12 * 99);
        sentence("Promise 22", "the weight, or 0 for none");
        for (int v = 1; v <= 12; v++) {
            due("99", q.weight(v, 0), 99);
            due("99, its opposite", q.weight(-v, 0), 99);
        }
        due("none of them", q.best(), 0);
    }

    private static void bestWish() {
        sentence("Terms", "The best wish is the greatest sum of weights of true literals over all values of the block 0 "
                + "by which 'e' wins, whatever is assumed.");
        Quantifold q = game("e2 a1", "1 2", "-1 -2 3");
        q.weight(1, 10);
        q.weight(2, 20);
        due("not both", q.best(), 20);
        q.weight(-2, 11);
        due("10 and 11", q.best(), 21);
        q.weight(-1, 2);
        due("2 and 20", q.best(), 22);
        assume(q, 1, 2);
        due("whatever is assumed, though a wins by it", q.winner() + " " + q.best(), "a 22");
        due("assumed still", q.release(), 2);
        due("only false literals have weights", heavy("-1 -2", new int[] {1, 2}, new int[] {50, 49}), 50);
        due("all false", heavy("-1 2", new int[] {-1, -2}, new int[] {99, 99}), 198);
        due("no weights, one way to win", game("e2", "-1", "-2").best(), 0);
        due("no clauses", game("e1").best(), 0);
        due("no variables in the block 0", game("e0 a1 e1", "2 1", "-2 -1").best(), 0);
        Quantifold behind = game("e1 a1 e1", "1 2 3", "1 -2 -3", "-1 2");
        behind.weight(1, 5);
        due("e wins by false alone", behind.best(), 0);
        Quantifold mixed = game("e0 e0");
        for (int block : new int[] {1, 0, 1, 0}) {
            mixed.variable(block);
        }
        mixed.weight(2, 7);
        mixed.weight(4, 8);
        due("the block 0 has not the lowest numbers", mixed.best(), 15);
        Quantifold later = game("e1");
        later.weight(1, 5);
        later.variable(0);
        due("a variable that came later", later.weight(2, 6) + later.best(), 11);
    }

    private static int heavy(String clause, int[] literals, int[] weights) {
        Quantifold q = game("e2", clause);
        for (int i = 0; i < literals.length; i++) {
            q.weight(literals[i], weights[i]);
        }
        return q.best();
    }

    private static void cores() {
        sentence("Terms", "A core is what stays of the assumed literals if, one by one, in the order in which they were "
                + "assumed, each is left out without which 'a' still wins.");
        Quantifold none = game("e2 a1", "3");
        due("nothing assumed, nothing needed", core(none), "");
        assume(none, 1, 2);
        due("nothing needed", core(none), "");
        due("all are assumed still", none.release(), 2);
        Quantifold q = game("e3 a1", "1 2", "2 3");
        assume(q, -1, -2, -3);
        due("-1 is left out, -2 is needed then", core(q), "-2 -3");
        q.release();
        assume(q, -3, -2, -1);
        due("-3 is left out", core(q), "-2 -1");
        q.release();
        assume(q, -2, -3, -1);
        due("in the order of assuming", core(q), "-2 -1");
        Quantifold all = game("e12", "1 2 3 4 5 6 7 8", "9 10 11 12");
        assume(all, -12, -11, -10, -9, -1, -2, -3, -4, -5, -6, -7, -8);
        due("of twelve, eight", core(all), "-1 -2 -3 -4 -5 -6 -7 -8");
        due("the last", all.coreAt(7), -8);
        fails("behind the last", NONE, () -> all.coreAt(8));
    }

    // play

    private static void playSides() {
        sentence("Terms", "Somebody takes a side, without what is assumed.");
        Quantifold q = game("e2 a1", "1 2", "-1 3 2");
        assume(q, -2);
        due("a is to be told", q.begin('a'), 3);
        due("the strategy did what it likes", played(q, 3), "11-");
        due("e is to be told", q.begin('e'), 1);
        due("anew", played(q, 3), "---");
        due("2, which is assumed", q.move(false), 2);
        due("against what is assumed", q.move(true), 0);
        due("assumed still", q.release(), 1);
        sentence("Promise 36", "Returns the variable to be told next, 0 if all have values");
        due("no variables", game("e0 a0").begin('e'), 0);
        due("none to be told", game("a3").begin('e'), 0);
        due("the last one to be told", game("e11 a1").begin('a'), 12);
        due("the first one", game("a12").begin('a'), 1);
    }

    private static void playOrder() {
        sentence("Terms", "Variables get values in their order: those of this side as told, others by the strategy: "
                + "true if its side wins from there by the search, otherwise false.");
        Quantifold q = game("a1 e1 a1 e1", "1 2", "-1 -2", "3 4", "-3 -4");
        due("begin", q.begin('a'), 1);
        due("nothing yet", played(q, 4), "----");
        due("1", q.move(true), 3);
        due("2 against it", played(q, 4), "10--");
        due("3", q.move(false), 0);
        sentence("Promise 38", "Returns 1 true, 0 false, -1 none yet");
        due("4 against it", played(q, 4), "1001");
        due("begin anew", q.begin('a'), 1);
        due("nothing again", played(q, 4), "----");
        Quantifold both = game("e1 a1", "1");
        due("true if both win", both.begin('e') + played(both, 2), "1--");
        due("the strategy has lost, false", both.move(true) + played(both, 2), "010");
        Quantifold free = game("a2");
        due("a loses, false", free.begin('e') + played(free, 2), "000");
        due("e wins, true", played(begun(game("e2"), 'a'), 2), "11");
        due("a wins, true", played(begun(game("a2", ""), 'e'), 2), "11");
        due("e loses, false", played(begun(game("e2", ""), 'a'), 2), "00");
        Quantifold twelve = game("e12");
        int turn = twelve.begin('e');
        for (int v = 1; v <= 12; v++) {
            due("told", turn, v);
            turn = twelve.move(v % 2 == 0);
        }
        due("all told", turn + played(twelve, 12), "0010101010101");
    }

    private static Quantifold begun(Quantifold q, char side) {
        q.begin(side);
        return q;
    }

    private static void playWon() {
        sentence("Terms", "If the winner is the side of the strategy, it wins.");
        String[][] games = {
            {"a2 e2", "1 2 3", "-1 -2 4", "-3 -4", "1 -2 3 4"}, {"e1 a1 e1 a1", "1 2 3", "-1 -2 3 4", "2 4"},
            {"a1 e1 a1 e1", "1 2", "-1 -2", "3 4", "-3 -4"}, {"e2 a2", "1 3", "-2 4"}, {"a1 e1 a1", "1 2", "-2 3"}
        };
        for (String[] one : games) {
            String[] clauses = Arrays.copyOfRange(one, 1, one.length);
            char winner = game(one[0], clauses).winner();
            for (int ways = 0; ways < 16; ways++) {
                Quantifold q = game(one[0], clauses);
                int turn = q.begin(winner == 'e' ? 'a' : 'e');
                for (int i = 0; turn != 0 && i < 4; i++) {
                    turn = q.move((ways >> i & 1) != 0);
                }
                due(one[0] + " by " + ways, q.won(), winner);
                due("it is sound", q.isSound(), true);
            }
        }
        sentence("Promise 39", "Returns 'e' or 'a'");
        due("no variables, no clauses", begun(new Quantifold(), 'e').won(), 'e');
        due("no variables, an empty clause", begun(game("", ""), 'a').won(), 'a');
        Quantifold thrown = game("e1", "1");
        thrown.begin('e');
        thrown.move(false);
        due("a side that was to win, and threw it", thrown.won() + "" + thrown.isSound(), "atrue");
    }

    private static void playEnds() {
        sentence("Terms", "Changes of prefix or matrix end the play.");
        List<Function<Quantifold, Object>> ending = List.of(q -> q.block('e'), q -> q.block('a'), q -> q.variable(0),
                q -> q.variable(2), Quantifold::clause, q -> clause(q, "1"), q -> q.drop(0), q -> q.drop(1));
        for (int i = 0; i < ending.size(); i++) {
            for (int moves = 0; moves < 3; moves++) {
                Quantifold q = playing(moves);
                ending.get(i).apply(q);
                fails("change " + i + " of " + moves + " moves, played", UNSUPPORTED, () -> q.played(1));
                fails("change " + i + " of " + moves + " moves, move", UNSUPPORTED, () -> q.move(true));
                fails("change " + i + " of " + moves + " moves, won", UNSUPPORTED, q::won);
                due("sound", q.isSound(), true);
                due("another play", q.begin('e'), 1);
            }
        }
        List<Function<Quantifold, Object>> others = new ArrayList<>(List.of(q -> q.type(1), Quantifold::wipe,
                q -> q.assume(-1), Quantifold::release, q -> q.weight(1, 9), q -> q.far(true), Quantifold::winner,
                q -> q.resolve(0, 1, 1), q -> term(q, "2 3"), q -> q.solve(1), Quantifold::best,
                Quantifold::conflicts, q -> q.resolveTerms(0, 1, 2), Quantifold::checksum, Quantifold::isSound));
        others.add(q -> answer(() -> q.block('x')));
        others.add(q -> answer(() -> q.variable(3)));
        others.add(q -> answer(() -> q.drop(2)));
        for (int i = 0; i < others.size(); i++) {
            for (int moves = 0; moves < 3; moves++) {
                Quantifold q = playing(moves);
                String before = played(q, 3);
                others.get(i).apply(q);
                due("no change " + i + " of " + moves + " moves", played(q, 3), before);
                due("nor of who has won", answer(q::won), moves == 2 ? 'e' : UNSUPPORTED);
            }
        }
    }

    /** A play of e against a, the first of whose two variables of e is told by a move. */
    private static Quantifold playing(int moves) {
        Quantifold q = game("e1 a1 e1", "1 2 3", "-1 2 3");
        term(q, "2 3");
        term(q, "-2 3");
        q.begin('e');
        for (int i = 0; i < moves; i++) {
            q.move(true);
        }
        return q;
    }

    private static void exceptions() {
        sentence("Terms", "A method that throws an exception changes nothing.");
        Quantifold q = game("e1", "1");
        q.type(1);
        fails("typed twice", UNSUPPORTED, () -> q.type(-1));
        due("one is typed", q.wipe(), 1);
        sentence("Terms", "If several exceptions apply, the one that is listed first is thrown.");
        fails("no clause, no literal", INDEX, () -> q.literal(1, false, 1));
        fails("a clause, no literal", NONE, () -> q.literal(0, false, 1));
        sentence("Terms", "There is no such clause if it was dropped, or went.");
        Quantifold gone = game("e1", "1", "-1");
        gone.resolve(0, 1, 1);
        gone.drop(0);
        for (int number : new int[] {0, 2}) {
            fails("drop", INDEX, () -> gone.drop(number));
            fails("size", INDEX, () -> gone.size(number, false));
            fails("literal", INDEX, () -> gone.literal(number, true, 0));
            fails("resolve, the first", INDEX, () -> gone.resolve(number, 1, 1));
            fails("resolve, the other", INDEX, () -> gone.resolve(1, number, 1));
            fails("isBlocked", INDEX, () -> gone.isBlocked(number, 1));
            fails("held", INDEX, () -> gone.held(number));
        }
        due("1 is there", gone.size(1, false), 1);
    }

    // sums

    private static void values() {
        sentence("Promise 12", "the values as bits, the variable 1 being the bit 0; others have no meaning");
        Quantifold q = game("e2 a1", "1 -3", "2");
        for (int values = 0; values < 8; values++) {
            boolean want = ((values & 1) != 0 || (values & 4) == 0) && (values & 2) != 0;
            due("values " + values, q.holds(values), want);
            due("values " + values + " with all others", q.holds(values | ~7), want);
            due("values " + values + " with the sign", q.holds(values | Integer.MIN_VALUE), want);
        }
        due("no clauses", game("e1").holds(-1), true);
        due("an empty one", game("e1", "").holds(-1), false);
        Quantifold twelve = game("e12", "1 2 3 4 5 6 7 8", "-9 -10 -11 -12");
        due("the bit 11 alone is missing", twelve.holds(0x7FF), true);
        due("all", twelve.holds(0xFFF), false);
        due("none", twelve.holds(0), false);
        assume(twelve, 1);
        due("whatever is assumed", twelve.holds(0), false);
    }

    private static void checksums() {
        sentence("Promise 40", "Returns 7 at first, then for each clause that is there 31 times itself plus how many "
                + "literals it has, reduced, then for each term likewise, then 31 times itself plus how many literals "
                + "are assumed");
        due("nothing", new Quantifold().checksum(), 217L);
        due("nothing assumed", game("e2 a2").checksum(), 217L);
        due("reduced", game("e1 a1", "1 2").checksum(), (7L * 31 + 1) * 31);
        Quantifold q = game("e12");
        List<Integer> parts = new ArrayList<>();
        for (int number = 0; number < 40; number++) {
            StringBuilder literals = new StringBuilder();
            for (int v = 1; v <= (number * 5) % 9; v++) {
                literals.append(v).append(' ');
            }
            clause(q, literals.toString());
            if (number == 17 || literals.length() == 0) {
                q.drop(number);
            } else {
                parts.add((number * 5) % 9);
            }
        }
        for (int number = 0; number < 20; number++) {
            term(q, "1");
            parts.add(0);
        }
        for (int v = 1; v <= 12; v++) {
            parts.add(v);
            q.assume(-v);
            due("wrapped around, " + v + " assumed", q.checksum(), wrapped(parts));
            parts.remove(parts.size() - 1);
        }
        Quantifold told = game("a1 e1", "1 2");
        term(told, "1 2");
        term(told, "2");
        due("terms reduced", told.checksum(), wrapped(List.of(2, 1, 0, 0)));
    }

    private static long wrapped(List<Integer> parts) {
        BigInteger sum = BigInteger.valueOf(7);
        for (int part : parts) {
            sum = sum.multiply(BigInteger.valueOf(31)).add(BigInteger.valueOf(part));
        }
        return sum.longValue();
    }

    private static void shares() {
        sentence("Promise 41", "Returns their number divided by that of all, both converted to float");
        due("no variables", new Quantifold().trueShare(), 1.0f);
        due("no variables, an empty clause", game("", "").trueShare(), 0.0f);
        due("no clauses", game("e6 a6").trueShare(), 1.0f);
        due("one variable", game("a1", "1").trueShare(), 0.5f);
        due("all but one", game("e8", "1 2 3 4 5 6 7 8").trueShare(), 255.0f / 256.0f);
        due("4095 of 4096", game("e12", "12", "-12").trueShare(), 0.0f);
        String[] units = new String[12];
        for (int v = 1; v <= 12; v++) {
            units[v - 1] = v % 2 == 0 ? "" + v : "-" + v;
        }
        Quantifold q = game("e3 a9", units);
        due("one of 4096", q.trueShare(), 1.0f / 4096.0f);
        q.drop(11);
        due("two of 4096", q.trueShare(), 2.0f / 4096.0f);
        Quantifold made = game("e2", "1", "-1 2");
        made.resolve(0, 1, 1);
        made.drop(0);
        assume(made, 1);
        due("of all values, whatever is assumed", made.trueShare(), 0.75f);
    }

    private static void means() {
        sentence("Promise 42", "Returns the sum divided by their number, both converted to double");
        due("one of eight", game("e8", "1 2 3 4 5 6 7 8").meanSize(), 8.0);
        due("nothing", game("", "", "").meanSize(), 0.0);
        due("a third", game("e1", "1", "", "").meanSize(), 1.0 / 3.0);
        due("not reduced", game("e1 a2", "1 2 3", "2").meanSize(), 2.0);
        Quantifold q = game("e3", "1 2 3", "-1", "2 3");
        q.resolve(0, 1, 1);
        due("without made ones", q.meanSize(), 2.0);
        q.drop(2);
        due("without dropped ones", q.meanSize(), 2.0);
        q.drop(0);
        due("1", q.meanSize(), 1.0);
    }

    private static void sound() {
        sentence("Promise 43", "Tells whether the side that is proved is the winner without what is assumed, and not "
                + "both are; each clause that is held or blocked could be dropped without another winner; and a play "
                + "that has ended was won by the strategy, if its side was to win");
        Quantifold e = game("a1 e1", "1 2", "-1 -2");
        term(e, "1 -2");
        term(e, "-1 2");
        e.resolveTerms(0, 1, 1);
        due("e is proved", e.proved() + "" + e.isSound(), "etrue");
        Quantifold opposite = game("e1", "-1", "-1");
        term(opposite, "-1");
        due("e is proved, and wins by false alone", opposite.proved() + "" + opposite.isSound(), "etrue");
        Quantifold some = game("e2", "1 2", "1 -2");
        term(some, "1");
        assume(some, -1);
        due("e is proved, a wins with what is assumed", some.proved() + "" + some.winner() + some.isSound(), "eatrue");
        Quantifold a = game("e1 a1", "1 2", "-1 -2");
        a.resolve(0, 1, 1);
        due("a is proved", a.proved() + "" + a.isSound(), "atrue");
        due("a is proved by nothing", game("", "").isSound(), true);
        due("held and blocked ones", game("e2 a1", "1", "1 2", "1", "-2 1 3").isSound(), true);
        due("held ones of a", game("e1 a1", "2", "2 1", "2").isSound(), true);
        Quantifold lost = game("e1", "1");
        lost.begin('e');
        due("a play that goes on", lost.isSound(), true);
        lost.move(false);
        due("the strategy won, though it was not to", lost.won() + "" + lost.isSound(), "atrue");
        lost.begin('e');
        lost.move(true);
        due("the strategy lost, it was not to win", lost.won() + "" + lost.isSound(), "etrue");
    }
}
