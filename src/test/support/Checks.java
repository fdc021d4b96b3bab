import java.io.IOException;
import java.nio.file.Files;
import java.nio.file.Path;
import java.util.ArrayList;
import java.util.LinkedHashMap;
import java.util.LinkedHashSet;
import java.util.List;
import java.util.Map;
import java.util.NoSuchElementException;
import java.util.Set;
import java.util.function.Function;
import java.util.function.Supplier;

/** What tests have in common: counted checks, the document's sentences, formulas as texts, looks at everything. */
abstract class Checks {
    static final Class<?> ARGUMENT = IllegalArgumentException.class;
    static final Class<?> STATE = IllegalStateException.class;
    static final Class<?> INDEX = IndexOutOfBoundsException.class;
    static final Class<?> UNSUPPORTED = UnsupportedOperationException.class;
    static final Class<?> NONE = NoSuchElementException.class;

    /** From the project's directory, where the tests run. */
    private static final Path DOCUMENT = Path.of("../shared/DOC.md");
    private static final Map<String, String> PLACES = readDocument();
    private static final Map<String, Set<String>> QUOTED = new LinkedHashMap<>();

    private static int wrong = 0;
    private static int checked = 0;
    private static String section = "";

    interface Call {
        Object run();
    }

    // checks

    /** Names what is checked from here on. */
    static void section(String name) {
        section = name;
    }

    static void due(String what, Object got, Object want) {
        checked++;
        if (!want.equals(got)) {
            wrong++;
            System.out.println(section + ": " + what + " answered " + got + ", due is " + want);
        }
    }

    /** What a call answers, or the class of the exception that it throws. */
    static Object answer(Call call) {
        try {
            return call.run();
        } catch (RuntimeException e) {
            return e.getClass();
        }
    }

    static void fails(String what, Class<?> want, Call call) {
        due(what, answer(call), want);
    }

    /** A call that is refused on what the maker makes, all else being as it was before. */
    static void refused(String what, Class<?> want, Supplier<Quantifold> maker, Function<Quantifold, Object> call) {
        Quantifold asked = maker.get();
        fails(what, want, () -> call.apply(asked));
        Supplier<Quantifold> refuser = () -> {
            Quantifold q = maker.get();
            answer(() -> call.apply(q));
            return q;
        };
        due(what + ", and then all else", firstChange(everything(refuser), everything(maker)), "");
    }

    private static String firstChange(String got, String want) {
        String[] gots = got.split("; ");
        String[] wants = want.split("; ");
        for (int i = 0; i < gots.length && i < wants.length; i++) {
            if (!gots[i].equals(wants[i])) {
                return gots[i] + ", not " + wants[i];
            }
        }
        return gots.length == wants.length ? "" : "other calls";
    }

    /** Tells how many checks there were; ends with exit code 1 if one was wrong. */
    static void end() {
        System.out.println(checked + " checks, " + wrong + " wrong");
        if (wrong != 0) {
            System.exit(1);
        }
    }

    // the document's sentences

    /** Names the sentence that is checked from here on, which must stand in the document at that place. */
    static void sentence(String place, String words) {
        section = place + ", '" + words + "'";
        if (!PLACES.isEmpty()) {
            due("in the document", plain(PLACES.getOrDefault(place, "")).contains(words), true);
        }
        QUOTED.computeIfAbsent(place, key -> new LinkedHashSet<>()).add(words);
    }

    static Set<String> quoted(String place) {
        return QUOTED.getOrDefault(place, Set.of());
    }

    /** The document's parts by their headings, "Promise 7" for those of promises; none without the document. */
    static Map<String, String> places() {
        return PLACES;
    }

    private static Map<String, String> readDocument() {
        Map<String, String> found = new LinkedHashMap<>();
        try {
            for (String part : Files.readString(DOCUMENT).split("(?m)^## ")) {
                String heading = part.substring(0, part.indexOf('\n'));
                String place = heading.startsWith("Promise ") ? heading.substring(0, heading.indexOf(':')) : heading;
                found.put(place, part.substring(heading.length()));
            }
        } catch (IOException e) {
            System.out.println("no " + DOCUMENT + ", so the sentences are not looked up there");
        }
        return found;
    }

    /** A text without marks of code and breaks of lines. */
    static String plain(String text) {
        return text.replace("`", "").replaceAll("\\s+", " ").trim();
    }

    // formulas as texts

    /** A prefix as "e1 a2" says how many variables each block has; each clause is a text of literals. */
    static Quantifold game(String blocks, String... clauses) {
        Quantifold q = new Quantifold();
        for (String block : blocks.split(" ")) {
            if (block.isEmpty()) {
                continue;
            }
            int number = q.block(block.charAt(0));
            for (int i = Integer.parseInt(block.substring(1)); i > 0; i--) {
                q.variable(number);
            }
        }
        for (String clause : clauses) {
            clause(q, clause);
        }
        return q;
    }

    static void type(Quantifold q, String literals) {
        for (String literal : literals.trim().split(" +")) {
            if (!literal.isEmpty()) {
                q.type(Integer.parseInt(literal));
            }
        }
    }

    static int clause(Quantifold q, String literals) {
        type(q, literals);
        return q.clause();
    }

    static int term(Quantifold q, String literals) {
        type(q, literals);
        return q.term();
    }

    static void assume(Quantifold q, int... literals) {
        for (int literal : literals) {
            q.assume(literal);
        }
    }

    static String text(Quantifold q, int clause, boolean isReduced) {
        List<Integer> literals = new ArrayList<>();
        for (int i = 0; i < q.size(clause, isReduced); i++) {
            literals.add(q.literal(clause, isReduced, i));
        }
        return joined(literals);
    }

    static String termText(Quantifold q, int term, boolean isReduced) {
        List<Integer> literals = new ArrayList<>();
        for (int i = 0; i < q.termSize(term, isReduced); i++) {
            literals.add(q.termLiteral(term, isReduced, i));
        }
        return joined(literals);
    }

    static String core(Quantifold q) {
        List<Integer> literals = new ArrayList<>();
        for (int i = 0; i < q.core(); i++) {
            literals.add(q.coreAt(i));
        }
        return joined(literals);
    }

    private static String joined(List<Integer> literals) {
        StringBuilder text = new StringBuilder();
        for (int literal : literals) {
            text.append(text.length() == 0 ? "" : " ").append(literal);
        }
        return text.toString();
    }

    /** The values behind propagation, a sign for each variable. */
    static String values(Quantifold q, int variables) {
        StringBuilder text = new StringBuilder();
        for (int v = 1; v <= variables; v++) {
            text.append(sign(q.value(v)));
        }
        return text.toString();
    }

    /** The values in the play, a sign for each variable. */
    static String played(Quantifold q, int variables) {
        StringBuilder text = new StringBuilder();
        for (int v = 1; v <= variables; v++) {
            text.append(sign(q.played(v)));
        }
        return text.toString();
    }

    private static char sign(int value) {
        return value < 0 ? '-' : (char) ('0' + value);
    }

    // looks at everything

    /** What a state answers to all calls; each copy of it is asked a part, as calls may change it and are counted. */
    static String everything(Supplier<Quantifold> maker) {
        StringBuilder all = new StringBuilder();
        askSums(maker.get(), all);
        askSizes(maker.get(), all);
        askLiterals(maker.get(), all, 0, 20);
        askLiterals(maker.get(), all, 20, 40);
        askTerms(maker.get(), all);
        askVariables(maker.get(), all);
        askLooks(maker.get(), all);
        askTyped(maker, all);
        askPlay(maker.get(), all);
        askDrops(maker.get(), all);
        askLimits(maker.get(), all);
        return all.toString();
    }

    private static void note(StringBuilder all, String name, Call call) {
        all.append(name).append(' ').append(answer(call)).append("; ");
    }

    private static void askSums(Quantifold q, StringBuilder all) {
        note(all, "clauses", q::clauses);
        note(all, "terms", q::terms);
        note(all, "winner", q::winner);
        note(all, "positions", q::positions);
        note(all, "conflicts", q::conflicts);
        note(all, "best", q::best);
        note(all, "proved", q::proved);
        note(all, "won", q::won);
        note(all, "checksum", q::checksum);
        note(all, "trueShare", q::trueShare);
        note(all, "meanSize", q::meanSize);
        note(all, "isSound", q::isSound);
        note(all, "core", q::core);
        for (int index = 0; index < 12; index++) {
            int at = index;
            note(all, "coreAt", () -> q.coreAt(at));
        }
        for (int values = 1; values < 4096; values += 321) {
            int bits = values;
            note(all, "holds", () -> q.holds(bits));
        }
        for (int budget = 1; budget < 9999; budget *= 3) {
            int most = budget;
            note(all, "solve", () -> q.solve(most));
        }
    }

    private static void askSizes(Quantifold q, StringBuilder all) {
        for (int number = 0; number < 40; number++) {
            int clause = number;
            note(all, "size", () -> q.size(clause, false));
            note(all, "reduced", () -> q.size(clause, true));
            note(all, "held", () -> q.held(clause));
        }
    }

    private static void askLiterals(Quantifold q, StringBuilder all, int from, int to) {
        for (int number = from; number < to; number++) {
            int clause = number;
            note(all, "clause", () -> text(q, clause, false));
        }
    }

    private static void askTerms(Quantifold q, StringBuilder all) {
        for (int number = 0; number < 20; number++) {
            int term = number;
            note(all, "reduced", () -> q.termSize(term, true));
            note(all, "term", () -> termText(q, term, false));
        }
    }

    private static void askVariables(Quantifold q, StringBuilder all) {
        for (int number = 1; number <= 12; number++) {
            int variable = number;
            note(all, "kind", () -> q.kind(variable));
            note(all, "value", () -> q.value(variable));
            note(all, "played", () -> q.played(variable));
            note(all, "expands", () -> q.expands(variable));
            note(all, "weight", () -> q.weight(variable, 0));
            note(all, "weight of its opposite", () -> q.weight(-variable, 0));
            for (int next = 1; next <= 12; next++) {
                int other = next;
                note(all, "depends", () -> q.depends(variable, other));
            }
        }
    }

    private static void askLooks(Quantifold q, StringBuilder all) {
        for (int number = 0; number < 12; number++) {
            for (int variable = 1; variable <= 12; variable++) {
                int clause = number;
                int literal = variable;
                note(all, "isBlocked", () -> q.isBlocked(clause, literal));
                note(all, "isBlocked by its opposite", () -> q.isBlocked(clause, -literal));
            }
        }
    }

    private static void askTyped(Supplier<Quantifold> maker, StringBuilder all) {
        Quantifold wiped = maker.get();
        note(all, "wipe", wiped::wipe);
        Quantifold told = maker.get();
        note(all, "clause", () -> text(told, told.clause(), false));
        Quantifold term = maker.get();
        note(all, "term", () -> termText(term, term.term(), false));
        Quantifold typed = maker.get();
        for (int variable = 1; variable <= 12; variable++) {
            int literal = variable;
            note(all, "type", () -> typed.type(literal));
        }
    }

    private static void askPlay(Quantifold q, StringBuilder all) {
        for (int turn = 0; turn < 12; turn++) {
            boolean value = turn % 3 == 1;
            note(all, "move", () -> q.move(value));
        }
        note(all, "won", q::won);
        note(all, "played", () -> played(q, 12));
    }

    private static void askDrops(Quantifold q, StringBuilder all) {
        for (int number = 39; number >= 0; number--) {
            int clause = number;
            note(all, "drop", () -> q.drop(clause));
        }
    }

    private static void askLimits(Quantifold q, StringBuilder all) {
        note(all, "far", () -> q.far(true));
        note(all, "release", q::release);
        note(all, "assume", () -> q.assume(1));
        note(all, "block", () -> q.block('e'));
        note(all, "variable", () -> q.variable(0));
    }
}
