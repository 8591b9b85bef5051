import java.io.IOException;
import java.lang.reflect.Method;
import java.lang.reflect.Modifier;
import java.nio.file.Files;
import java.nio.file.Path;
import java.util.ArrayList;
import java.util.Arrays;
import java.util.List;
import java.util.TreeSet;
import java.util.regex.Matcher;
import java.util.regex.Pattern;

/** The class shows the document's face, and nothing else; the source keeps to LANGUAGE.md where a text tells it. */
public final class FaceTests {
    private static final String[] FACE = {
        "int board(int) IllegalArgumentException",
        "boolean rule(char,boolean) IllegalArgumentException",
        "int rules()",
        "int setRules(int) IllegalArgumentException",
        "char put(int,char) IndexOutOfBoundsException IllegalArgumentException UnsupportedOperationException",
        "boolean begin(boolean)",
        "char at(int) IndexOutOfBoundsException",
        "int king()",
        "int count(char) IllegalArgumentException",
        "boolean isTurn()",
        "boolean isHostile(int,char) IndexOutOfBoundsException IllegalArgumentException",
        "boolean surrounds()",
        "boolean canMove(int,int) IndexOutOfBoundsException",
        "int countMoves()",
        "int moveAt(int) NoSuchElementException",
        "int move(int,int) IndexOutOfBoundsException IllegalStateException UnsupportedOperationException",
        "char winner()",
        "int countMade()",
        "int repeats()",
        "int undo() NoSuchElementException",
        "int worth()",
        "int search(int) IllegalArgumentException",
        "int best(int) IllegalArgumentException IllegalStateException",
        "int play(int) IllegalArgumentException",
        "int seed(int) IllegalArgumentException",
        "int countPositions() ArithmeticException",
        "char solve() ArithmeticException",
        "int kept(char) IllegalArgumentException",
        "int balanceBits() ArithmeticException",
        "char know(char,char) IllegalArgumentException",
        "int tie(char,boolean,char,boolean) IllegalArgumentException IllegalStateException",
        "int untie()",
        "int countAgreeing()",
        "int agreeing(int) NoSuchElementException",
        "char find(int,char) IndexOutOfBoundsException IllegalArgumentException",
        "int complete(char) IllegalArgumentException UnsupportedOperationException",
        "char found(int) IndexOutOfBoundsException",
        "int record(int,int) IllegalArgumentException IllegalStateException",
        "int parent(int) IndexOutOfBoundsException",
        "int unlike(int,int) IndexOutOfBoundsException",
        "int middle(int,int,int) IndexOutOfBoundsException",
        "double meanOn() ArithmeticException",
        "long checksum()",
        "boolean isSound()",
    };

    private static final String[] FORBIDDEN = {
        "\\bcatch\\b", "\\btry\\b", "\\bfinally\\b", "->", "::", "\\bsynchronized\\b", "\\bassert\\b",
        "\\bSystem\\.(?!arraycopy)", "\\bMath\\.(?!min|max|abs|floorDiv|floorMod)", "Exact\\b", "\\bFloat\\.",
        "\\bDouble\\.", "\\bThread\\b", "\\bRandom\\b", "\\.equals\\(", "\\.hashCode\\(", "\\.toString\\(",
        "MAX_VALUE", "MIN_VALUE", "\\bpackage\\b", "\\bstrictfp\\b", "\\bstatic\\s*\\{",
        "\\bimport (?!java\\.util\\.(Arrays|NoSuchElementException);)",
        "static (?!final)(\\w+(\\[\\])?) \\w+( =|;)",
        "static final (byte|short|float|double) ", "\"\\s*\\+", "\\+\\s*\"", "\\bprotected\\b", "\\bsuper\\b",
        "\\bgetMessage\\b", "\\bObject\\b", "\\bDouble\\b", "\\bnew (?!\\w+\\(|(long|int|short|byte)\\[)",
    };

    private static final Checks checks = new Checks();

    public static void main(String[] args) throws IOException {
        testMethods();
        testSections();
        testNothingElseIsSeen();
        testSizes();
        testSource();
        testMethodsAreShort();
        checks.end();
    }

    private static void testMethods() {
        List<String> got = new ArrayList<>();
        for (Method method : SurroundedKing.class.getDeclaredMethods()) {
            if (!Modifier.isPrivate(method.getModifiers()) && !method.isSynthetic()) {
                got.add(told(method));
            }
        }
        checks.same("methods", new TreeSet<>(got).toString(), new TreeSet<>(Arrays.asList(FACE)).toString());
        checks.same("class", Modifier.toString(SurroundedKing.class.getModifiers()), "public final");
    }

    /** The calls stand in the document's order, behind its lines "boards, rules, men" and so on. */
    private static void testSections() throws IOException {
        List<String> due = new ArrayList<>();
        for (String line : FACE) {
            String name = line.replaceAll("^\\w+ (\\w+)\\(.*", "$1");
            String section = sectionAheadOf(name);
            if (!section.isEmpty()) {
                due.add(section);
            }
            due.add(name);
        }
        List<String> got = new ArrayList<>();
        Pattern shown = Pattern.compile("    (?:// (---- .*)|public (?!SurroundedKing).* (\\w+)\\(.*)");
        for (String line : Files.readAllLines(Path.of("src/main/java/SurroundedKing.java"))) {
            Matcher matcher = shown.matcher(line);
            if (matcher.matches() && got.size() < due.size()) {
                got.add(matcher.group(1) != null ? matcher.group(1) : matcher.group(2));
            }
        }
        checks.same("calls behind their lines", got, due);
    }

    private static String sectionAheadOf(String name) {
        return switch (name) {
            case "board" -> "---- boards, rules, men";
            case "canMove" -> "---- moves and ends";
            case "worth" -> "---- searching and solving";
            case "know" -> "---- gaps, finds, families";
            default -> "";
        };
    }

    private static String told(Method method) {
        StringBuilder text = new StringBuilder();
        text.append(method.getReturnType().getSimpleName()).append(' ').append(method.getName()).append('(');
        String comma = "";
        for (Class<?> type : method.getParameterTypes()) {
            text.append(comma).append(type.getSimpleName());
            comma = ",";
        }
        text.append(')');
        for (Class<?> type : method.getExceptionTypes()) {
            text.append(' ').append(type.getSimpleName());
        }
        return text.toString();
    }

    private static void testNothingElseIsSeen() {
        for (java.lang.reflect.Field field : SurroundedKing.class.getDeclaredFields()) {
            checks.same("private " + field.getName(), Modifier.isPrivate(field.getModifiers()), true);
        }
        checks.same("constructors", SurroundedKing.class.getDeclaredConstructors().length, 1);
        TreeSet<String> names = new TreeSet<>();
        for (String line : FACE) {
            names.add(line.replaceAll("^\\w+ (\\w+)\\(.*", "$1"));
        }
        for (Class<?> inside : SurroundedKing.class.getDeclaredClasses()) {
            checks.same("static " + inside, Modifier.isStatic(inside.getModifiers()), true);
            checks.same("not public " + inside, Modifier.isPublic(inside.getModifiers()), false);
            for (Method method : inside.getDeclaredMethods()) {
                checks.same("own name " + method.getName(), names.contains(method.getName()), false);
            }
        }
        for (Method method : SurroundedKing.class.getDeclaredMethods()) {
            boolean isPrivate = Modifier.isPrivate(method.getModifiers());
            checks.same("own name " + method.getName(), isPrivate && names.contains(method.getName()), false);
        }
    }

    /** At most some twelve classes, of some twenty fields beside constants, and seven parameters. */
    private static void testSizes() {
        List<Class<?>> classes = new ArrayList<>(Arrays.asList(SurroundedKing.class.getDeclaredClasses()));
        classes.add(SurroundedKing.class);
        checks.same("few classes", classes.size() <= 12, true);
        for (Class<?> each : classes) {
            int fields = 0;
            for (java.lang.reflect.Field field : each.getDeclaredFields()) {
                boolean isStatic = Modifier.isStatic(field.getModifiers());
                fields += isStatic ? 0 : 1;
                checks.same("static is final " + field, !isStatic || Modifier.isFinal(field.getModifiers()), true);
            }
            checks.same("few fields in " + each, fields <= 20, true);
            for (Method method : each.getDeclaredMethods()) {
                checks.same("few parameters of " + method, method.getParameterCount() <= 7, true);
            }
        }
    }

    /** A member begins at an indent of four or eight, with a bracket, and ends at the same indent. */
    private static void testMethodsAreShort() throws IOException {
        List<String> lines = Files.readAllLines(Path.of("src/main/java/SurroundedKing.java"));
        int[] begun = new int[9];
        for (int i = 0; i < lines.size(); i++) {
            String line = lines.get(i);
            int indent = line.length() - line.stripLeading().length();
            if (indent == 4 || indent == 8) {
                boolean isClass = line.contains(" class ");
                if (!isClass && line.contains("(") && !line.stripLeading().startsWith("*")) {
                    begun[indent] = i;
                } else if (line.strip().equals("}") && begun[indent] > 0) {
                    checks.same("short at line " + (i + 1), i - begun[indent] <= 60, true);
                    begun[indent] = 0;
                }
            }
        }
    }

    private static void testSource() throws IOException {
        String source = Files.readString(Path.of("src/main/java/SurroundedKing.java"));
        String code = source.replaceAll("(?s)/\\*.*?\\*/", "").replaceAll("//[^\n]*", "");
        String bare = code.replaceAll("\"[^\"\n]*\"", "\"\"");
        for (String pattern : FORBIDDEN) {
            Matcher matcher = Pattern.compile(pattern).matcher(bare);
            checks.same("none of " + pattern, matcher.find() ? matcher.group() : "none", "none");
        }
        for (int i = 0; i < source.length(); i++) {
            if (source.charAt(i) > 126) {
                checks.same("sign at " + i, source.charAt(i), "a plain one");
            }
        }
    }
}
