import java.io.IOException;
import java.lang.reflect.Constructor;
import java.lang.reflect.Field;
import java.lang.reflect.Method;
import java.lang.reflect.Modifier;
import java.nio.file.Files;
import java.nio.file.Path;
import java.util.ArrayList;
import java.util.Arrays;
import java.util.HashSet;
import java.util.List;
import java.util.Set;
import java.util.TreeSet;
import java.util.regex.Matcher;
import java.util.regex.Pattern;

/** The public face as the document's code block gives it, and those rules of LANGUAGE.md that a look can tell. */
public final class FaceTest {
    private static final Path SOURCE = Path.of("src/main/java/Quantifold.java");
    private static final String FACE = """
            public int block(char kind) throws IllegalArgumentException, IllegalStateException;
            public int variable(int block) throws IndexOutOfBoundsException, IllegalStateException;
            public char kind(int variable) throws IndexOutOfBoundsException;
            public int type(int literal) throws IllegalArgumentException, UnsupportedOperationException, IllegalStateException;
            public int wipe();
            public int clause() throws IllegalStateException;
            public int drop(int clause) throws IndexOutOfBoundsException, UnsupportedOperationException;
            public int clauses();
            public int size(int clause, boolean isReduced) throws IndexOutOfBoundsException;
            public int literal(int clause, boolean isReduced, int index) throws IndexOutOfBoundsException, NoSuchElementException;
            public boolean holds(int values);
            public int assume(int literal) throws IllegalArgumentException, UnsupportedOperationException;
            public int release();
            public char winner();
            public int positions();
            public char solve(int budget) throws IllegalArgumentException;
            public int core() throws UnsupportedOperationException;
            public int coreAt(int index) throws UnsupportedOperationException, NoSuchElementException;
            public boolean conflicts();
            public int value(int variable) throws IndexOutOfBoundsException;
            public int weight(int literal, int weight) throws IllegalArgumentException, UnsupportedOperationException;
            public int best() throws NoSuchElementException;
            public boolean far(boolean is);
            public int resolve(int clause, int other, int variable) throws IndexOutOfBoundsException, UnsupportedOperationException, IllegalStateException;
            public int term() throws UnsupportedOperationException, IllegalStateException;
            public int terms();
            public int termSize(int term, boolean isReduced) throws IndexOutOfBoundsException;
            public int termLiteral(int term, boolean isReduced, int index) throws IndexOutOfBoundsException, NoSuchElementException;
            public int resolveTerms(int term, int other, int variable) throws IndexOutOfBoundsException, UnsupportedOperationException, IllegalStateException;
            public char proved();
            public boolean depends(int variable, int other) throws IndexOutOfBoundsException, UnsupportedOperationException;
            public boolean isBlocked(int clause, int literal) throws IndexOutOfBoundsException, UnsupportedOperationException;
            public int held(int clause) throws IndexOutOfBoundsException, UnsupportedOperationException;
            public int expands(int variable) throws IndexOutOfBoundsException, UnsupportedOperationException;
            public int begin(char side) throws IllegalArgumentException;
            public int move(boolean value) throws UnsupportedOperationException;
            public int played(int variable) throws IndexOutOfBoundsException, UnsupportedOperationException;
            public char won() throws UnsupportedOperationException;
            public long checksum();
            public float trueShare();
            public double meanSize() throws NoSuchElementException;
            public boolean isSound();
            """;
    private static int wrong = 0;

    private static void due(String what, Object got, Object want) {
        if (!want.equals(got)) {
            wrong++;
            System.out.println(what + " is " + got + ", due is " + want);
        }
    }

    public static void main(String[] args) throws IOException {
        members();
        calls();
        nested();
        source();
        System.out.println(wrong + " wrong");
        if (wrong != 0) {
            System.exit(1);
        }
    }

    private static void members() {
        due("the class", Modifier.toString(Quantifold.class.getModifiers()), "public final");
        Constructor<?>[] all = Quantifold.class.getDeclaredConstructors();
        due("constructors", all.length, 1);
        due("the constructor", all[0].toString(), "public Quantifold()");
        for (Field field : Quantifold.class.getDeclaredFields()) {
            due(field + " is private", Modifier.isPrivate(field.getModifiers()), true);
            if (Modifier.isStatic(field.getModifiers())) {
                due(field + " is final", Modifier.isFinal(field.getModifiers()), true);
            }
        }
    }

    /** Each call as a line of the document's code block, without the names of parameters. */
    private static void calls() {
        Set<String> want = new TreeSet<>();
        for (String line : FACE.split("\n")) {
            want.add(line.replaceAll("(int|char|boolean) \\w+(?=[,)])", "$1").replace(";", ""));
        }
        Set<String> got = new TreeSet<>();
        Set<String> names = new HashSet<>();
        for (Method method : Quantifold.class.getDeclaredMethods()) {
            if (!Modifier.isPrivate(method.getModifiers())) {
                got.add(text(method));
                names.add(method.getName());
            }
        }
        due("the calls", got, want);
        due("their number", got.size(), 42);
        List<Class<?>> places = new ArrayList<>(Arrays.asList(Quantifold.class.getDeclaredClasses()));
        places.add(Quantifold.class);
        for (Class<?> place : places) {
            for (Method method : place.getDeclaredMethods()) {
                boolean isOwn = place != Quantifold.class || Modifier.isPrivate(method.getModifiers());
                due(method + " has a name of the face", isOwn && names.contains(method.getName()), false);
                due(method + " has at most seven parameters", method.getParameterCount() <= 7, true);
            }
        }
    }

    private static String text(Method method) {
        StringBuilder text = new StringBuilder(Modifier.toString(method.getModifiers()));
        text.append(' ').append(method.getReturnType()).append(' ').append(method.getName()).append('(');
        for (int i = 0; i < method.getParameterCount(); i++) {
            text.append(i == 0 ? "" : ", ").append(method.getParameterTypes()[i]);
        }
        text.append(')');
        for (int i = 0; i < method.getExceptionTypes().length; i++) {
            text.append(i == 0 ? " throws " : ", ").append(method.getExceptionTypes()[i].getSimpleName());
        }
        return text.toString();
    }

    private static void nested() {
        Class<?>[] inside = Quantifold.class.getDeclaredClasses();
        due("at most twelve classes", inside.length + 1 <= 12, true);
        for (Class<?> one : inside) {
            int is = one.getModifiers();
            due(one + " is static and not public", Modifier.isStatic(is) && !Modifier.isPublic(is), true);
            due(one + " has at most twenty fields", one.getDeclaredFields().length <= 20, true);
        }
    }

    private static void source() throws IOException {
        String all = Files.readString(SOURCE);
        String code = all.replaceAll("(?s)/\\*.*?\\*/", "").replaceAll("//[^\n]*", "").replaceAll("\"[^\"\n]*\"", "\"\"");
        due("signs beyond 126", all.chars().allMatch(c -> c < 127), true);
        for (String line : code.split("\n")) {
            if (line.startsWith("import ")) {
                due("an import", line, "import java.util.NoSuchElementException;");
            }
        }
        for (String not : new String[] {
            "package ", "->", "::", "synchronized", "assert ", "finally", "catch", "System.", "Thread", "instanceof",
            "Exact", "getMessage", "equals(", "hashCode", "toString", "\"\" +", "+ \"\"", "java.io", "native"
        }) {
            due("'" + not + "' in the code", code.contains(not), false);
        }
        indexes(code);
        int start = -1;
        String[] lines = all.split("\n");
        for (int i = 0; i < lines.length; i++) {
            if (lines[i].matches("    (    )?(public |private |static )*[\\w\\[\\]]+ \\w+\\(.*|        (static )?\\w+ \\w+\\(.*\\{")) {
                start = i;
            }
            if (lines[i].matches("    (    )?\\}") && start >= 0) {
                due("lines of the method from line " + (start + 1), i - start < 60, true);
                start = -1;
            }
        }
    }

    /** An index that is a number is looked at in its own line, one that is a name somewhere in its method. */
    private static void indexes(String code) {
        Pattern index = Pattern.compile("(\\w+)\\[(\\w+)\\]");
        for (String method : code.split("\n\\s*\n")) {
            for (String line : method.split("\n")) {
                for (Matcher found = index.matcher(line); found.find();) {
                    String row = found.group(1) + ".length";
                    boolean isNumber = Character.isDigit(found.group(2).charAt(0));
                    boolean isNew = row.equals("int.length") || row.equals("long.length");
                    String place = isNumber ? line : method;
                    due(line.trim() + " looks at its index", isNew || place.contains(row), true);
                }
            }
        }
    }
}
