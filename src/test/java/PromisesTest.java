/** Each promise by itself: ordinary inputs, the edges that the document names, wrong inputs. */
public final class PromisesTest extends Checks {
    public static void main(String[] args) {
        newObject();
        prefix();
        typing();
        clauses();
        dropping();
        looksAtClauses();
        assuming();
        winner();
        budgets();
        cores();
        propagation();
        wishes();
        resolution();
        longDistance();
        terms();
        proofs();
        paths();
        blocked();
        held();
        expansion();
        play();
        strategy();
        sums();
        soundness();
        end();
    }

    private static void newObject() {
        section("1 a new object");
        Quantifold q = new Quantifold();
        due("clauses", q.clauses(), 0);
        due("terms", q.terms(), 0);
        fails("kind", INDEX, () -> q.kind(1));
        fails("variable", INDEX, () -> q.variable(0));
        due("wipe", q.wipe(), 0);
        due("release", q.release(), 0);
        due("winner", q.winner(), 'e');
        due("positions", q.positions(), 1);
        due("holds", q.holds(0), true);
        due("conflicts", q.conflicts(), false);
        due("proved", q.proved(), '-');
        due("checksum", q.checksum(), 217L);
        due("trueShare", q.trueShare(), 1.0f);
        due("far", q.far(false), false);
        fails("best", NONE, q::best);
        fails("meanSize", NONE, q::meanSize);
        fails("move", UNSUPPORTED, () -> q.move(true));
        fails("won", UNSUPPORTED, q::won);
        due("isSound", q.isSound(), true);
        due("begin", q.begin('e'), 0);
        due("won", q.won(), 'e');
        due("another object", new Quantifold().block('a'), 0);
    }

    private static void prefix() {
        section("2 block");
        Quantifold q = new Quantifold();
        fails("kind x", ARGUMENT, () -> q.block('x'));
        fails("kind E", ARGUMENT, () -> q.block('E'));
        fails("kind 0", ARGUMENT, () -> q.block((char) 0));
        for (int i = 0; i < 6; i++) {
            due("block", q.block(i == 2 || i == 3 ? 'a' : 'e'), i);
        }
        fails("a seventh", STATE, () -> q.block('a'));
        fails("a seventh of no kind", ARGUMENT, () -> q.block('b'));
        section("3 variable");
        fails("block -1", INDEX, () -> q.variable(-1));
        fails("block 6", INDEX, () -> q.variable(6));
        fails("a huge block", INDEX, () -> q.variable(Integer.MAX_VALUE));
        for (int i = 0; i < 12; i++) {
            due("variable", q.variable(5 - i / 2), i + 1);
        }
        fails("a thirteenth", STATE, () -> q.variable(0));
        fails("a thirteenth of no block", INDEX, () -> q.variable(6));
        section("4 kind");
        due("of 1", q.kind(1), 'e');
        due("of 5", q.kind(5), 'a');
        due("of 8", q.kind(8), 'a');
        due("of 12", q.kind(12), 'e');
        for (int v : new int[] {0, 13, -1, Integer.MIN_VALUE, Integer.MAX_VALUE}) {
            fails("of " + v, INDEX, () -> q.kind(v));
        }
    }

    private static void typing() {
        section("5 type");
        Quantifold q = game("e5 a4");
        due("3", q.type(3), 1);
        due("-1", q.type(-1), 2);
        fails("0", ARGUMENT, () -> q.type(0));
        fails("10", ARGUMENT, () -> q.type(10));
        fails("-10", ARGUMENT, () -> q.type(-10));
        fails("least", ARGUMENT, () -> q.type(Integer.MIN_VALUE));
        fails("most", ARGUMENT, () -> q.type(Integer.MAX_VALUE));
        fails("3 again", UNSUPPORTED, () -> q.type(3));
        fails("1", UNSUPPORTED, () -> q.type(1));
        type(q, "2 4 5 -6 -7 8");
        fails("a ninth", STATE, () -> q.type(9));
        fails("a ninth that is typed", UNSUPPORTED, () -> q.type(-8));
        fails("a ninth that is none", ARGUMENT, () -> q.type(11));
        section("6 wipe");
        due("8", q.wipe(), 8);
        due("0", q.wipe(), 0);
        due("anew", q.type(-3), 1);
        due("1", q.wipe(), 1);
    }

    private static void clauses() {
        section("7 clause");
        Quantifold q = game("e2");
        type(q, "2 -1");
        due("0", q.clause(), 0);
        due("what is typed is wiped", q.wipe(), 0);
        due("nothing", q.clause(), 1);
        due("its size", q.size(1, false), 0);
        for (int i = 2; i < 40; i++) {
            due("next", q.clause(), i);
        }
        q.type(1);
        fails("41", STATE, q::clause);
        due("what is typed stays", q.wipe(), 1);
        due("drop", q.drop(39), 1);
        fails("numbers are not used again", STATE, q::clause);
        section("9 clauses");
        due("39", q.clauses(), 39);
        Quantifold made = game("e2", "1 2", "-1 2");
        made.resolve(0, 1, 1);
        due("without made ones", made.clauses(), 2);
        made.drop(1);
        due("without dropped ones", made.clauses(), 1);
    }

    private static void dropping() {
        section("8 drop");
        Quantifold q = game("e4", "1 2", "-1 2", "-2 3", "4");
        due("made", q.resolve(0, 1, 1), 4);
        due("made of made", q.resolve(4, 2, 2), 5);
        fails("made", UNSUPPORTED, () -> q.drop(4));
        fails("-1", INDEX, () -> q.drop(-1));
        fails("6", INDEX, () -> q.drop(6));
        fails("far", INDEX, () -> q.drop(Integer.MIN_VALUE));
        due("3 goes alone", q.drop(3), 1);
        due("2 takes 5", q.drop(2), 2);
        fails("again", INDEX, () -> q.drop(2));
        due("4 stays", text(q, 4, false), "2");
        due("0 takes 4", q.drop(0), 2);
        fails("4 went", INDEX, () -> q.size(4, true));
        due("1 is there", q.clauses(), 1);
        q.type(-4);
        due("the next number", q.clause(), 6);
        Quantifold twice = game("e3", "1 2", "-1 3", "-2 3");
        twice.resolve(0, 1, 1);
        twice.resolve(3, 2, 2);
        due("all of it", twice.drop(0), 3);
    }

    private static void looksAtClauses() {
        section("10 size");
        Quantifold q = game("e1 a2 e1 a1", "5 -3 1", "4 -2 5", "2 -5 3", "");
        due("0", q.size(0, false), 3);
        due("0 reduced", q.size(0, true), 1);
        due("1 reduced", q.size(1, true), 2);
        due("2 reduced", q.size(2, true), 0);
        due("3", q.size(3, false), 0);
        fails("-1", INDEX, () -> q.size(-1, true));
        fails("4", INDEX, () -> q.size(4, false));
        fails("40", INDEX, () -> q.size(40, false));
        section("11 literal");
        due("0", text(q, 0, false), "1 -3 5");
        due("0 reduced", text(q, 0, true), "1");
        due("1", text(q, 1, false), "-2 4 5");
        due("1 reduced", text(q, 1, true), "-2 4");
        fails("-1", NONE, () -> q.literal(0, false, -1));
        fails("3", NONE, () -> q.literal(0, false, 3));
        fails("1 reduced", NONE, () -> q.literal(0, true, 1));
        fails("least", NONE, () -> q.literal(0, true, Integer.MIN_VALUE));
        fails("none in nothing", NONE, () -> q.literal(3, false, 0));
        fails("no clause", INDEX, () -> q.literal(4, false, 9));
        q.drop(0);
        fails("a dropped clause", INDEX, () -> q.literal(0, false, 0));
        section("12 holds");
        Quantifold h = game("e2 a1", "1 -2", "3");
        due("101", h.holds(0b101), true);
        due("100", h.holds(0b100), true);
        due("110", h.holds(0b110), false);
        due("001", h.holds(0b001), false);
        due("others", h.holds(0b101 | ~0b111), true);
        h.drop(1);
        due("001 with one dropped", h.holds(0b001), true);
        due("an empty one", game("e1", "").holds(-1), false);
    }

    private static void assuming() {
        section("13 assume");
        Quantifold q = game("e3 a1 e1");
        fails("0", ARGUMENT, () -> q.assume(0));
        fails("6", ARGUMENT, () -> q.assume(6));
        fails("least", ARGUMENT, () -> q.assume(Integer.MIN_VALUE));
        fails("4", UNSUPPORTED, () -> q.assume(4));
        fails("-5", UNSUPPORTED, () -> q.assume(-5));
        due("-2", q.assume(-2), 1);
        fails("-2 again", UNSUPPORTED, () -> q.assume(-2));
        fails("2", UNSUPPORTED, () -> q.assume(2));
        due("1", q.assume(1), 2);
        due("3", q.assume(3), 3);
        fails("a block 0 of a", UNSUPPORTED, () -> game("a2 e1").assume(1));
        fails("behind a block 0 of a", UNSUPPORTED, () -> game("a2 e1").assume(3));
        section("14 release");
        due("3", q.release(), 3);
        due("0", q.release(), 0);
        due("anew", q.assume(2), 1);
    }

    private static void winner() {
        section("15 winner");
        due("e", game("e1 a1 e1", "1 2 3", "-1 2 -3", "1 -2 -3").winner(), 'e');
        due("a copies not", game("a1 e1", "1 2", "-1 -2").winner(), 'e');
        due("a by order", game("e1 a1", "1 2", "-1 -2").winner(), 'a');
        due("an empty clause", game("e1", "").winner(), 'a');
        due("clauses of a", game("a2", "1 2").winner(), 'a');
        Quantifold q = game("e2 a1", "1 2");
        due("without", q.winner(), 'e');
        q.assume(-1);
        due("with one", q.winner(), 'e');
        q.assume(-2);
        due("with both", q.winner(), 'a');
        q.release();
        due("released", q.winner(), 'e');
        q.type(3);
        q.clause();
        due("told", q.winner(), 'a');
        q.drop(1);
        due("dropped", q.winner(), 'e');
        section("16 positions");
        due("of nothing", game("e3").positions(), 1);
        due("first true", game("e1", "1").positions(), 2);
        due("both", game("e1", "-1").positions(), 3);
        due("a is done by true", game("a1", "-1").positions(), 2);
        due("a goes on", game("a1", "1").positions(), 3);
        due("e1 a1 e1", game("e1 a1 e1", "1 2 3", "-1 2 -3", "1 -2 -3").positions(), 6);
        Quantifold assumed = game("e2", "1 2");
        due("not assumed", assumed.positions(), 2);
        assumed.assume(-1);
        due("assumed", assumed.positions(), 2);
        assumed.assume(-2);
        due("assumed all", assumed.positions(), 1);
        Quantifold made = game("e1", "1", "-1");
        made.resolve(0, 1, 1);
        due("made ones are not of the matrix", made.positions(), 3);
        Quantifold mixed = new Quantifold();
        mixed.block('e');
        mixed.block('a');
        mixed.variable(1);
        mixed.variable(0);
        mixed.type(1);
        mixed.type(2);
        mixed.clause();
        due("in order by blocks, not by numbers", mixed.positions(), 2);
        Quantifold most = game("e12", "-1", "-2", "-3", "-4", "-5", "-6", "-7", "-8", "-9", "-10", "-11", "-12");
        due("each false", most.positions(), 25);
    }

    private static void budgets() {
        section("17 solve");
        Quantifold q = game("e1 a1 e1", "1 2 3", "-1 2 -3", "1 -2 -3");
        due("5", q.solve(5), '?');
        due("6", q.solve(6), 'e');
        due("9999", q.solve(9999), 'e');
        fails("0", ARGUMENT, () -> q.solve(0));
        fails("-1", ARGUMENT, () -> q.solve(-1));
        fails("10000", ARGUMENT, () -> q.solve(10000));
        due("1 for a", game("e1", "").solve(1), 'a');
        Quantifold a = game("e1 a1", "1 2", "-1 -2");
        due("a", a.solve(a.positions()), 'a');
        due("a with less", a.solve(a.positions() - 1), '?');
        q.assume(1);
        due("assumed", q.solve(q.positions()), 'e');
    }

    private static void cores() {
        section("18 core");
        Quantifold q = game("e4 a1", "1 2", "3 4", "3 1");
        fails("e wins", UNSUPPORTED, q::core);
        fails("e wins, at", UNSUPPORTED, () -> q.coreAt(0));
        q.assume(-3);
        q.assume(-2);
        q.assume(-1);
        q.assume(-4);
        due("of two ways the one whose literals were assumed behind", q.core(), 2);
        due("its literals", core(q), "-2 -1");
        section("19 coreAt");
        q.release();
        q.assume(-4);
        q.assume(-2);
        q.assume(-3);
        q.assume(-1);
        due("left out in order", core(q), "-3 -1");
        due("of 2", q.core(), 2);
        fails("2", NONE, () -> q.coreAt(2));
        fails("-1", NONE, () -> q.coreAt(-1));
        fails("least", NONE, () -> q.coreAt(Integer.MIN_VALUE));
        Quantifold none = game("e1 a1", "2");
        none.assume(1);
        due("none is needed", none.core(), 0);
        fails("none at", NONE, () -> none.coreAt(0));
    }

    private static void propagation() {
        section("20 conflicts");
        due("none", game("e2", "1 2", "-1 -2").conflicts(), false);
        due("nothing", game("e1", "").conflicts(), true);
        due("reduced", game("e1 a1", "2").conflicts(), true);
        due("by units", game("e2", "1", "-1 2", "-1 -2").conflicts(), true);
        due("a wins without", game("e1 a1", "1 2", "-1 -2").conflicts(), true);
        due("undecided", game("e3", "1 2 3", "1 -2", "-1 2", "2 -3", "-2 3", "-1 -2 -3").conflicts(), false);
        Quantifold q = game("e2", "1 2", "-1 -2", "1 -2");
        q.assume(-1);
        due("by what is assumed", q.conflicts(), true);
        q.release();
        due("released", q.conflicts(), false);
        section("21 value");
        due("pure", values(game("e2 a1 e1", "1 -2 3 4", "1 3 -4"), 4), "1---");
        due("units ahead of pure ones", values(game("e3", "1 2", "-3", "3 -1 2"), 3), "-10");
        due("pure of a is false", values(game("a1 e2", "1 2 3", "1 -2 -3"), 3), "0--");
        due("opposites pure of a are false", values(game("a1 e2", "-1 2 3", "-1 -2 -3"), 3), "1--");
        due("reduced units", values(game("e1 a1 e1", "1 2", "-1 3 2", "-1 -3 -2"), 3), "1--");
        due("true clauses count not", values(game("e3", "1", "-2 1", "2 3", "2 -3"), 3), "11-");
        Quantifold order = game("e2", "1 2", "-1", "-2");
        due("units by numbers", values(order, 2), "01");
        Quantifold first = game("e2", "-1", "", "-2");
        due("a conflict ends it at once", values(first, 2), "--");
        Quantifold assumed = game("e3", "-1 2", "3 1 -2", "3");
        assumed.assume(1);
        due("assumed", values(assumed, 3), "111");
        fails("0", INDEX, () -> assumed.value(0));
        fails("4", INDEX, () -> assumed.value(4));
        fails("-1", INDEX, () -> assumed.value(-1));
    }

    private static void wishes() {
        section("22 weight");
        Quantifold q = game("e2 a1 e1", "1 2", "-1 -2 3 4");
        due("1", q.weight(1, 5), 0);
        due("1 again", q.weight(1, 99), 5);
        due("-1", q.weight(-1, 0), 0);
        due("1 to none", q.weight(1, 0), 99);
        due("1 from none", q.weight(1, 20), 0);
        fails("0", ARGUMENT, () -> q.weight(0, 1));
        fails("5", ARGUMENT, () -> q.weight(5, 1));
        fails("least", ARGUMENT, () -> q.weight(Integer.MIN_VALUE, 1));
        fails("100", ARGUMENT, () -> q.weight(1, 100));
        fails("-1 as weight", ARGUMENT, () -> q.weight(1, -1));
        fails("100 of a", ARGUMENT, () -> q.weight(3, 100));
        fails("of a", UNSUPPORTED, () -> q.weight(3, 1));
        fails("of another block", UNSUPPORTED, () -> q.weight(-4, 1));
        fails("block 0 of a", UNSUPPORTED, () -> game("a1").weight(1, 0));
        section("23 best");
        q.weight(2, 30);
        due("both", q.best(), 50);
        q.weight(-2, 31);
        due("20 and 31", q.best(), 51);
        q.assume(-1);
        due("whatever is assumed", q.best(), 51);
        type(q, "-1 2");
        q.clause();
        due("told", q.best(), 50);
        due("no weights", game("e2", "1").best(), 0);
        due("a block 0 without variables", game("e0 a1 e1", "2 1").best(), 0);
        fails("a block 0 without variables, a wins", NONE, () -> game("e0 a1", "1").best());
        fails("a wins", NONE, () -> game("e1 a1", "1 2", "-1 2").best());
        fails("block 0 of a", NONE, () -> game("a1 e1", "1 2").best());
        fails("no block", NONE, () -> game("").best());
        Quantifold twelve = game("e12", "-1 -2", "-12 11");
        for (int v = 1; v <= 12; v++) {
            twelve.weight(v, v);
            twelve.weight(-v, 1);
        }
        due("twelve", twelve.best(), 78);
        Quantifold loss = game("e1", "-1");
        loss.weight(1, 9);
        due("a wish against winning", loss.best(), 0);
    }

    private static void resolution() {
        section("25 resolve");
        Quantifold q = game("e2 a1 e2", "1 4", "-4 2 3", "-1 2", "-2 5 3", "3 5", "-5 -3");
        due("0 1 by 4", q.resolve(0, 1, 4), 6);
        due("reduced", text(q, 6, false), "1 2");
        due("6 2 by 1", q.resolve(6, 2, 1), 7);
        due("alike ones once", text(q, 7, true), "2");
        fails("the wrong way round", UNSUPPORTED, () -> q.resolve(2, 6, 1));
        fails("not in it", UNSUPPORTED, () -> q.resolve(0, 1, 5));
        fails("of a", UNSUPPORTED, () -> q.resolve(1, 5, 3));
        fails("itself", UNSUPPORTED, () -> q.resolve(0, 0, 1));
        fails("both literals of a", UNSUPPORTED, () -> q.resolve(3, 5, 5));
        fails("no such clause", INDEX, () -> q.resolve(8, 1, 4));
        fails("no such other", INDEX, () -> q.resolve(0, -1, 4));
        fails("no such variable", INDEX, () -> q.resolve(0, 1, 6));
        fails("variable 0", INDEX, () -> q.resolve(0, 1, 0));
        fails("a variable less than 0", INDEX, () -> q.resolve(0, 1, -4));
        q.drop(2);
        fails("a dropped clause", INDEX, () -> q.resolve(0, 2, 1));
        fails("one that went", INDEX, () -> q.resolve(7, 3, 2));
        Quantifold both = game("e3", "1 2", "-1 -2", "1 -3", "-1 -3");
        fails("both literals of e", UNSUPPORTED, () -> both.resolve(0, 1, 1));
        due("alike", both.resolve(2, 3, 1), 4);
        due("alike are one", text(both, 4, false), "-3");
        Quantifold reduced = game("e1 a1 e1", "1 2", "-1 -2", "1 2 3", "-2 -3");
        due("both taken reduced", reduced.resolve(0, 1, 1), 4);
        due("to nothing", reduced.size(4, false), 0);
        fails("ahead of reducing", UNSUPPORTED, () -> reduced.resolve(2, 3, 3));
        Quantifold first = game("e1 a1 e1", "1 2", "-1 -2 3", "1 2 3", "-1 -2");
        due("the first one taken reduced", text(first, first.resolve(0, 1, 1), false), "-2 3");
        due("the second one taken reduced", text(first, first.resolve(2, 3, 1), false), "2 3");
        Quantifold full = game("e2", "1", "-1");
        for (int i = 2; i < 40; i++) {
            due("made", full.resolve(0, 1, 1), i);
        }
        fails("41", STATE, () -> full.resolve(0, 1, 1));
        fails("41 that cannot", UNSUPPORTED, () -> full.resolve(1, 0, 1));
        fails("41 of none", INDEX, () -> full.resolve(40, 0, 1));
        fails("41 told", STATE, full::clause);
    }

    private static void longDistance() {
        section("24 far");
        Quantifold q = game("e1 a1 e2", "1 2 3", "-1 -2 4", "1 -2 -3", "-4", "3 4 -1", "-3 2 4");
        due("off at first", q.far(true), false);
        due("it was on", q.far(true), true);
        due("on", q.resolve(0, 1, 1), 6);
        due("both literals", text(q, 6, false), "2 -2 3 4");
        fails("not behind the pivot", UNSUPPORTED, () -> q.resolve(0, 2, 3));
        due("one clause has both", q.resolve(6, 3, 4), 7);
        due("kept", text(q, 7, true), "2 -2 3");
        fails("both in one, one in the other, ahead of it", UNSUPPORTED, () -> q.resolve(6, 5, 3));
        due("it was on still", q.far(false), true);
        fails("off", UNSUPPORTED, () -> q.resolve(0, 1, 1));
        fails("off, both in one", UNSUPPORTED, () -> q.resolve(6, 3, 4));
        due("it was off", q.far(false), false);
        q.far(true);
        due("on again", q.resolve(0, 1, 1), 8);
        Quantifold same = game("e1 a1 e1", "1 2 3", "-3 2");
        same.far(true);
        due("the same one alone", text(same, same.resolve(0, 1, 3), false), "1");
        Quantifold all = game("e1 a1 e1", "1 2 3", "-1 -2 3", "-3");
        all.far(true);
        all.resolve(0, 1, 1);
        due("to nothing", text(all, all.resolve(3, 2, 3), false), "");
        due("proved", all.proved(), 'a');
        due("winner", all.winner(), 'a');
        Quantifold e = game("e3", "1 2", "-1 -2");
        e.far(true);
        fails("not for e", UNSUPPORTED, () -> e.resolve(0, 1, 1));
        // Both clauses have both literals of the variable of a: it must be behind the one by which they are resolved.
        Quantifold twice = game("e2 a1 e2", "1 3 4 2", "-1 -3 4 2", "1 3 -4 -2", "-1 -3 -4 -2", "1 3 5 -2", "-1 -3 5 -2");
        twice.far(true);
        int left = twice.resolve(0, 1, 1);
        int right = twice.resolve(2, 3, 1);
        int third = twice.resolve(4, 5, 1);
        due("left", text(twice, left, false), "2 3 -3 4");
        fails("both literals of e", UNSUPPORTED, () -> twice.resolve(left, right, 4));
        due("both have both", text(twice, twice.resolve(left, third, 2), false), "3 -3 4 5");
    }

    private static void terms() {
        section("26 term");
        Quantifold q = game("a1 e2 a1 e1", "1 2", "-1 3 5");
        type(q, "1 5 4");
        due("0", q.term(), 0);
        due("wiped", q.wipe(), 0);
        type(q, "2 4");
        fails("some clause has none", UNSUPPORTED, q::term);
        due("what is typed stays", q.wipe(), 2);
        due("1", term(q, "-1 2"), 1);
        section("27 terms");
        due("2", q.terms(), 2);
        section("28 termSize");
        due("0", q.termSize(0, false), 3);
        due("0 reduced", q.termSize(0, true), 2);
        due("1 reduced", q.termSize(1, true), 1);
        fails("2", INDEX, () -> q.termSize(2, false));
        fails("-1", INDEX, () -> q.termSize(-1, false));
        fails("20", INDEX, () -> q.termSize(20, true));
        section("29 termLiteral");
        due("0", termText(q, 0, false), "1 4 5");
        due("0 reduced", termText(q, 0, true), "1 4");
        due("1", termText(q, 1, false), "-1 2");
        fails("-1", NONE, () -> q.termLiteral(0, false, -1));
        fails("3", NONE, () -> q.termLiteral(0, false, 3));
        fails("2 reduced", NONE, () -> q.termLiteral(0, true, 2));
        fails("no term", INDEX, () -> q.termLiteral(2, true, 7));
        section("30 resolveTerms");
        due("made", q.resolveTerms(0, 1, 1), 2);
        due("what comes", termText(q, 2, false), "4");
        fails("the wrong way round", UNSUPPORTED, () -> q.resolveTerms(1, 0, 1));
        fails("of e", UNSUPPORTED, () -> q.resolveTerms(0, 1, 2));
        fails("not in it", UNSUPPORTED, () -> q.resolveTerms(0, 1, 4));
        fails("no such term", INDEX, () -> q.resolveTerms(3, 1, 1));
        fails("no such other", INDEX, () -> q.resolveTerms(0, -1, 1));
        fails("no such variable", INDEX, () -> q.resolveTerms(0, 1, 0));
        fails("variable 6", INDEX, () -> q.resolveTerms(0, 1, 6));
        due("3", term(q, "-1 3 2 -4"), 3);
        fails("both literals of a", UNSUPPORTED, () -> q.resolveTerms(0, 3, 1));
        due("dropping leaves terms", q.drop(0) + q.terms(), 5);
        q.type(1);
        due("a clause", q.clause(), 2);
        due("all are gone", q.terms(), 0);
        fails("gone", INDEX, () -> q.termSize(0, false));
        due("numbers begin anew", term(q, "1 3"), 0);
        Quantifold taken = game("a1 e1 a1");
        term(taken, "1 2");
        term(taken, "-1 -2 3");
        term(taken, "1 2 3");
        term(taken, "-1 -2");
        due("the first one taken reduced", termText(taken, taken.resolveTerms(0, 1, 1), false), "-2 3");
        due("the second one taken reduced", termText(taken, taken.resolveTerms(2, 3, 1), false), "2 3");
        Quantifold full = game("a1 e2 a1", "1 2", "-1 3");
        term(full, "1 3");
        term(full, "-1 2");
        term(full, "1 -2 3 4");
        term(full, "-1 2 4");
        fails("both literals of e", UNSUPPORTED, () -> full.resolveTerms(2, 3, 1));
        for (int i = 4; i < 20; i++) {
            due("made ones counted", full.resolveTerms(0, 1, 1), i);
        }
        fails("21", STATE, () -> full.resolveTerms(0, 1, 1));
        fails("21 that cannot", UNSUPPORTED, () -> full.resolveTerms(1, 0, 1));
        fails("21 of none", INDEX, () -> full.resolveTerms(20, 0, 1));
        type(full, "1 3");
        fails("21 told", STATE, full::term);
        full.wipe();
        fails("21 that no clause meets", UNSUPPORTED, full::term);
        due("of nothing told", game("e1").term(), 0);
        Quantifold made = game("a1 e1", "1 2", "-2");
        made.resolve(0, 1, 2);
        due("made clauses count not", term(made, "1 -2"), 0);
    }

    private static void proofs() {
        section("31 proved");
        due("neither", game("a1 e1", "1 2", "-1 -2").proved(), '-');
        due("a told", game("e1 a1", "1", "2").proved(), 'a');
        due("a by nothing", game("e1", "").proved(), 'a');
        Quantifold q = game("e1", "1", "-1");
        q.resolve(0, 1, 1);
        due("a made", q.proved(), 'a');
        q.drop(0);
        due("it went", q.proved(), '-');
        term(q, "-1");
        due("e told", q.proved(), 'e');
        Quantifold e = game("a1 e1", "1 2", "-1 -2");
        term(e, "1 -2");
        term(e, "-1 2");
        due("not yet", e.proved(), '-');
        e.resolveTerms(0, 1, 1);
        due("e made", e.proved(), 'e');
        e.type(2);
        e.clause();
        due("terms gone", e.proved(), '-');
        Quantifold none = game("");
        none.term();
        due("nothing is a term of no clauses", none.proved(), 'e');
    }

    private static void paths() {
        section("32 depends");
        Quantifold q = game("e1 a2 e4", "1 2 4", "-4 5", "-5 -6", "-3 7", "1 7 -3");
        due("one clause", q.depends(4, 2), true);
        due("two", q.depends(5, 2), true);
        due("three", q.depends(6, 2), true);
        due("by one not behind", q.depends(7, 2), false);
        due("7 of 3", q.depends(7, 3), true);
        due("4 of 3", q.depends(4, 3), false);
        fails("no such variable", INDEX, () -> q.depends(8, 2));
        fails("no such other", INDEX, () -> q.depends(4, 0));
        fails("less than 0", INDEX, () -> q.depends(-4, 2));
        fails("not of e", UNSUPPORTED, () -> q.depends(2, 3));
        fails("not of a", UNSUPPORTED, () -> q.depends(4, 5));
        fails("neither", UNSUPPORTED, () -> game("e1 a1 e1 a1", "1 2 3 4").depends(4, 2));
        fails("the other way round", UNSUPPORTED, () -> q.depends(2, 4));
        fails("not behind", UNSUPPORTED, () -> q.depends(1, 2));
        q.drop(1);
        due("dropped", q.depends(6, 2), false);
        Quantifold a = game("a2 e2", "1 2 3", "2 4");
        due("by one of a", a.depends(4, 1), false);
        due("no clauses", game("a1 e1").depends(2, 1), false);
        Quantifold made = game("e1 a1 e2", "1 2 4", "-1 3");
        due("made", text(made, made.resolve(0, 1, 1), false), "2 3 4");
        due("made ones are no path", made.depends(3, 2), false);
        Quantifold back = game("a1 e6", "7 6", "6 5", "5 4", "4 3", "3 2", "2 1");
        due("a long way against numbers", back.depends(7, 1), true);
    }

    private static void blocked() {
        section("33 isBlocked");
        Quantifold q = game("e1 a1 e2 a1 e1", "1 2 3", "-3 -2 4", "-3 -1", "3 5 4", "-6 5", "6 -5");
        due("by 2 and 1", q.isBlocked(0, 3), true);
        due("3 is behind 1", q.isBlocked(0, 1), false);
        due("no opposite", q.isBlocked(3, 4), true);
        due("none in both", q.isBlocked(3, 3), false);
        due("5 is ahead of 6", q.isBlocked(4, -6), true);
        due("-3 with 0 by 2, with 3 not", q.isBlocked(1, -3), false);
        fails("no such clause", INDEX, () -> q.isBlocked(6, 1));
        fails("-1", INDEX, () -> q.isBlocked(-1, 1));
        fails("not in it", UNSUPPORTED, () -> q.isBlocked(0, 4));
        fails("its opposite in it", UNSUPPORTED, () -> q.isBlocked(0, -3));
        fails("of a", UNSUPPORTED, () -> q.isBlocked(0, 2));
        for (int literal : new int[] {0, 7, -7, 13, Integer.MIN_VALUE, Integer.MAX_VALUE}) {
            fails("literal " + literal, UNSUPPORTED, () -> q.isBlocked(0, literal));
        }
        Quantifold same = game("e2", "1 2", "-1 -2", "-1 2");
        due("not with 2", same.isBlocked(0, 1), false);
        same.drop(2);
        due("in the same block", same.isBlocked(0, 1), true);
        Quantifold own = game("e1", "1", "-1");
        due("not by its own", own.isBlocked(0, 1), false);
        own.resolve(0, 1, 1);
        fails("a made one", UNSUPPORTED, () -> own.isBlocked(2, 1));
        own.drop(1);
        due("dropped", own.isBlocked(0, 1), true);
        fails("a dropped one", INDEX, () -> own.isBlocked(1, -1));
    }

    private static void held() {
        section("34 held");
        Quantifold q = game("e2 a1", "1 2 3", "1 2", "2 1", "-1 2", "2", "1 3");
        due("by the lowest", q.held(0), 1);
        due("alike, lower", q.held(1), 4);
        due("alike, higher", q.held(2), 1);
        due("by one behind", q.held(3), 4);
        due("none", q.held(4), -1);
        due("not reduced", q.held(5), -1);
        q.drop(4);
        due("alike, lower, alone", q.held(1), -1);
        due("alike, higher, still", q.held(2), 1);
        q.drop(1);
        due("another one", q.held(0), 2);
        fails("dropped", INDEX, () -> q.held(1));
        fails("-1", INDEX, () -> q.held(-1));
        fails("6", INDEX, () -> q.held(6));
        int made = q.resolve(2, 3, 1);
        fails("made", UNSUPPORTED, () -> q.held(made));
        due("not by made ones", q.held(3), -1);
        q.clause();
        due("by nothing", q.held(3), 7);
    }

    private static void expansion() {
        section("35 expands");
        Quantifold q = game("e1 a2 e2", "1", "2 1", "-2 4", "1 -4", "4 5 3", "3", "-3 1");
        due("of 2", q.expands(2), 9);
        due("of 3", q.expands(3), 9);
        fails("of e", UNSUPPORTED, () -> q.expands(1));
        fails("of e at the end", UNSUPPORTED, () -> q.expands(5));
        fails("0", INDEX, () -> q.expands(0));
        fails("6", INDEX, () -> q.expands(6));
        fails("-2", INDEX, () -> q.expands(-2));
        q.drop(3);
        due("dropped", q.expands(2), 7);
        Quantifold two = game("a1 e1 a1 e1", "1 2", "3 4", "4");
        fails("another one behind", UNSUPPORTED, () -> two.expands(1));
        due("the last one", two.expands(3), 4);
        due("none", game("a1").expands(1), 0);
        Quantifold made = game("a1 e2", "1 2", "-2 3");
        made.resolve(0, 1, 2);
        due("made ones count not", made.expands(1), 3);
        made.block('a');
        due("a block without variables behind", made.expands(1), 3);
    }

    private static void play() {
        section("36 begin");
        Quantifold q = game("e1 a1 e1", "1 2 3", "-1 2 -3", "1 -2 -3");
        fails("x", ARGUMENT, () -> q.begin('x'));
        fails("-", ARGUMENT, () -> q.begin('-'));
        fails("no play yet", UNSUPPORTED, () -> q.played(1));
        due("e", q.begin('e'), 1);
        due("a", q.begin('a'), 2);
        fails("side x leaves it", ARGUMENT, () -> q.begin('x'));
        section("38 played");
        due("the first move", q.played(1), 1);
        due("to be told", q.played(2), -1);
        due("behind it", q.played(3), -1);
        fails("0", INDEX, () -> q.played(0));
        fails("4", INDEX, () -> q.played(4));
        section("39 won");
        fails("not over", UNSUPPORTED, q::won);
        section("37 move");
        due("false", q.move(false), 0);
        due("played 2", q.played(2), 0);
        due("played 3", q.played(3), 0);
        fails("all have values", UNSUPPORTED, () -> q.move(true));
        section("39 won");
        due("e", q.won(), 'e');
        due("held after that", q.played(1), 1);
        q.far(true);
        due("made", q.resolve(2, 1, 1), 3);
        due("made ones leave the play", q.won(), 'e');
        ends("block", () -> q.block('a'), q);
        ends("variable", () -> q.variable(0), q);
        ends("clause", q::clause, q);
        ends("drop", () -> q.drop(4), q);
        section("37 move");
        Quantifold both = game("a1 e2 a1", "2 1", "-3 4");
        due("begin", both.begin('a'), 1);
        due("1", both.move(true), 4);
        due("4", both.move(false), 0);
        due("2 is true first", both.played(2), 1);
        due("3", both.played(3), 0);
        due("won", both.won(), 'e');
        due("begin for e", both.begin('e'), 2);
        due("1 by the strategy", both.played(1), 0);
        due("2", both.move(false), 3);
        due("3", both.move(true), 0);
        due("4 by the strategy, which has won", both.played(4), 1);
        due("a has won", both.won(), 'a');
        due("nobody to be told", game("a2", "1 2").begin('e'), 0);
    }

    private static void ends(String what, Call change, Quantifold q) {
        section("37 move");
        for (int turn = q.begin('e'), i = 0; turn != 0 && i < 12; i++) {
            turn = q.move(true);
        }
        q.won();
        change.run();
        fails(what + " ends it: played", UNSUPPORTED, () -> q.played(1));
        fails(what + " ends it: move", UNSUPPORTED, () -> q.move(true));
        fails(what + " ends it: won", UNSUPPORTED, q::won);
        fails(what + " ends it: no variable", INDEX, () -> q.played(13));
    }

    private static void strategy() {
        section("36 begin");
        Quantifold lost = game("e1 a1", "2");
        due("a side that loses takes false", lost.begin('a'), 2);
        due("false", lost.played(1), 0);
        due("over", lost.move(true), 0);
        due("won all the same", lost.won(), 'e');
        Quantifold assumed = game("e2 a1", "1 2", "-1 3 2");
        assumed.assume(-2);
        due("without what is assumed", assumed.begin('a'), 3);
        due("1", assumed.played(1), 1);
        due("2", assumed.played(2), 1);
        due("e is told first", assumed.begin('e'), 1);
        due("all", assumed.move(false), 2);
    }

    private static void sums() {
        section("40 checksum");
        Quantifold q = game("e1 a1 e1", "1 2 3", "-1 2", "-3", "");
        long sum = 7;
        for (int part : new int[] {3, 1, 1, 0, 0}) {
            sum = 31 * sum + part;
        }
        due("clauses", q.checksum(), sum);
        q.drop(3);
        q.resolve(0, 2, 3);
        term(q, "2 -3 1");
        term(q, "2 -3");
        q.assume(-1);
        sum = 7;
        for (int part : new int[] {3, 1, 1, 1, 2, 1, 1}) {
            sum = 31 * sum + part;
        }
        due("all", q.checksum(), sum);
        section("41 trueShare");
        due("3 of 4", game("e1 a1", "1 2").trueShare(), 0.75f);
        due("others", game("e2 a1 e1", "1").trueShare(), 0.5f);
        due("none", game("e1", "").trueShare(), 0.0f);
        due("no variables", game("", "").trueShare(), 0.0f);
        due("1 of 4096", game("e12", "1", "2", "3", "4", "5", "6", "7", "8", "9", "10", "11", "12").trueShare(),
                1.0f / 4096.0f);
        section("42 meanSize");
        Quantifold m = game("e2 a1", "1 2 3", "1", "2 3");
        due("2", m.meanSize(), 2.0);
        m.drop(1);
        due("2.5", m.meanSize(), 2.5);
        Quantifold made = game("e3", "1 2 3", "-1 2");
        made.resolve(0, 1, 1);
        made.resolve(0, 1, 1);
        due("without made ones", made.meanSize(), 2.5);
        due("of nothing", game("", "").meanSize(), 0.0);
    }

    private static void soundness() {
        section("43 isSound");
        Quantifold q = game("e1 a1 e1", "1 2 3", "-1 2 -3", "1 -2 -3", "1 2 3", "1");
        due("held ones", q.isSound(), true);
        q.begin('a');
        due("a play that goes on", q.isSound(), true);
        q.move(true);
        due("a play that has ended", q.isSound(), true);
        q.assume(-1);
        due("without what is assumed", q.isSound(), true);
        Quantifold a = game("e1 a1", "1 2", "-1 -2");
        a.resolve(0, 1, 1);
        due("a proved", a.isSound() && a.proved() == 'a', true);
        a.begin('a');
        a.move(true);
        due("the side that was not to win", a.isSound(), true);
        Quantifold e = game("a1 e1", "1 2", "-1 -2");
        term(e, "1 -2");
        term(e, "-1 2");
        e.resolveTerms(0, 1, 1);
        due("e proved", e.isSound() && e.proved() == 'e', true);
        Quantifold lone = game("e1", "1");
        lone.assume(-1);
        due("a blocked clause that alone goes against what is assumed", lone.isSound(), true);
    }
}
