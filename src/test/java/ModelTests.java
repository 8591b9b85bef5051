import java.lang.reflect.InvocationTargetException;
import java.lang.reflect.Method;
import java.util.Arrays;
import java.util.HashMap;
import java.util.Map;
import java.util.Random;

/** Long runs of drawn calls, whose answers and exceptions are those of the plain model. */
public final class ModelTests {
    private static final String RULES = "ewftcpln";
    private static final Map<String, Method> OWN = methodsOf(SurroundedKing.class);
    private static final Map<String, Method> PLAIN = methodsOf(PlainKing.class);

    private final Checks checks;
    private final Random random;
    private final SurroundedKing own = new SurroundedKing();
    private final PlainKing plain = new PlainKing();
    private final StringBuilder run = new StringBuilder();
    private int calls;
    private int places = 25;

    private ModelTests(Checks checks, long seed) {
        this.checks = checks;
        this.random = new Random(seed);
        run.append("seed ").append(seed).append(':');
    }

    public static void main(String[] args) {
        int runs = args.length > 0 ? Integer.parseInt(args[0]) : 400;
        long first = args.length > 1 ? Long.parseLong(args[1]) : 1;
        Checks checks = new Checks();
        for (int i = 0; i < runs && checks.isClean(); i++) {
            new ModelTests(checks, first + i).play(i);
        }
        checks.end();
    }

    private static Map<String, Method> methodsOf(Class<?> type) {
        Map<String, Method> methods = new HashMap<>();
        for (Method method : type.getDeclaredMethods()) {
            if (type == PlainKing.class || java.lang.reflect.Modifier.isPublic(method.getModifiers())) {
                if (!java.lang.reflect.Modifier.isPrivate(method.getModifiers())) {
                    method.setAccessible(true);
                    methods.put(method.getName(), method);
                }
            }
        }
        return methods;
    }

    private static String answer(Method method, Object on, Object[] args) {
        try {
            return String.valueOf(method.invoke(on, args));
        } catch (InvocationTargetException e) {
            return "throws." + e.getCause().getClass().getSimpleName();
        } catch (IllegalAccessException e) {
            throw new IllegalStateException(e);
        }
    }

    private String call(String name, Object... args) {
        calls++;
        run.append(' ').append(name).append(Arrays.toString(args).replace('[', '(').replace(']', ')'));
        String due = answer(PLAIN.get(name), plain, args);
        checks.same(run.toString(), answer(OWN.get(name), own, args), due);
        checks.same(run + " then checksum()", own.checksum(), plain.checksum());
        checks.same(run + " then winner()", own.winner(), plain.winner());
        checks.same(run + " then isTurn()", own.isTurn(), plain.isTurn());
        checks.same(run + " then king()", own.king(), plain.king());
        return due;
    }

    private void play(int kind) {
        int size = new int[] {3, 5, 3, 7}[kind % 4];
        if (size != 5) {
            takeBoard(size);
        }
        call("setRules", random.nextInt(256));
        layMen(1 + random.nextInt(size == 3 ? 4 : 2 * size), random.nextInt(size));
        int most = 60 + random.nextInt(200);
        while (calls < most && checks.isClean()) {
            drawCall();
        }
    }

    private void takeBoard(int size) {
        if (!call("board", size).startsWith("throws")) {
            places = size * size;
        }
    }

    private void layMen(int hunters, int guards) {
        for (int i = 0; i < hunters + guards; i++) {
            call("put", random.nextInt(places), i < hunters ? 'h' : 'g');
        }
        if (random.nextInt(3) == 0) {
            call("put", random.nextInt(places), 'k');
        }
        if (random.nextInt(3) == 0) {
            call("begin", random.nextBoolean());
        }
    }

    private void drawCall() {
        int draw = random.nextInt(100);
        if (draw < 40) {
            drawMove();
        } else if (draw < 50) {
            drawLook();
        } else if (draw < 62) {
            drawSearch();
        } else if (draw < 70) {
            drawStart();
        } else if (draw < 80) {
            call("undo");
        } else if (draw < 86) {
            drawGap();
        } else if (draw < 93) {
            drawFind();
        } else {
            drawFamily();
        }
    }

    private void drawMove() {
        String code = call("moveAt", drawIndex(plain.countMoves()));
        if (random.nextInt(8) == 0 || code.startsWith("throws")) {
            call("move", drawPlace(), drawPlace());
        } else {
            call("move", Integer.parseInt(code) / 100, Integer.parseInt(code) % 100);
        }
        if (plain.winner() != '-' && random.nextInt(3) > 0) {
            call("kept", random.nextBoolean() ? plain.winner() : '-');
            call("balanceBits");
            call(random.nextBoolean() ? "undo" : "worth");
        }
    }

    private int drawIndex(int count) {
        return random.nextInt(12) == 0 ? random.nextInt(120) - 10 : count == 0 ? 0 : random.nextInt(count);
    }

    private int drawPlace() {
        return random.nextInt(12) == 0 ? random.nextInt(80) - 10 : random.nextInt(places);
    }

    private char draw(String signs) {
        return random.nextInt(15) == 0 ? (char) random.nextInt(300) : signs.charAt(random.nextInt(signs.length()));
    }

    private void drawLook() {
        switch (random.nextInt(9)) {
            case 0 -> call("at", drawPlace());
            case 1 -> call("count", draw("hg"));
            case 2, 3 -> call("isHostile", drawPlace(), draw("hgk"));
            case 4 -> call("surrounds");
            case 5 -> call("canMove", drawPlace(), drawPlace());
            case 6 -> call("countMoves");
            case 7 -> call("repeats");
            default -> call("countMade");
        }
    }

    private void drawSearch() {
        boolean isSmall = places < 49 || plain.countMoves() < 20;
        switch (random.nextInt(12)) {
            case 0, 1 -> call("worth");
            case 2 -> call("search", random.nextInt(isSmall ? 4 : 2));
            case 3 -> call("best", random.nextInt(isSmall ? 4 : 2));
            case 4, 5 -> call("play", random.nextInt(20) == 0 ? random.nextInt(200) - 60 : 1 + random.nextInt(4));
            case 6 -> call("play", 1 + random.nextInt(isSmall ? 60 : 20));
            case 7 -> call("seed", random.nextInt(8) == 0 ? -random.nextInt(3) : 1 + random.nextInt(2147483646));
            case 8 -> call("countPositions");
            case 9 -> call("solve");
            case 10 -> call("kept", draw("gh=-"));
            default -> call("isSound");
        }
    }

    private void drawStart() {
        switch (random.nextInt(8)) {
            case 0 -> call("rule", draw(RULES), random.nextBoolean());
            case 1 -> call("setRules", random.nextInt(10) == 0 ? random.nextInt(600) - 200 : random.nextInt(256));
            case 2, 3 -> call("put", drawPlace(), draw("hhggk-"));
            case 4 -> call("put", drawPlace(), 'k');
            case 5 -> call("begin", random.nextBoolean());
            case 6 -> call("rules");
            default -> {
                if (random.nextInt(3) == 0) {
                    takeBoard(random.nextInt(5) == 0 ? random.nextInt(12) - 2 : 3 + 2 * random.nextInt(3));
                    layMen(1 + random.nextInt(5), random.nextInt(3));
                }
            }
        }
    }

    private void drawGap() {
        switch (random.nextInt(6)) {
            case 0 -> call("know", draw(RULES), draw("10?"));
            case 1, 2 -> call("tie", draw(RULES), random.nextBoolean(), draw(RULES), random.nextBoolean());
            case 3 -> call(random.nextInt(4) == 0 ? "untie" : "countAgreeing");
            case 4 -> call("countAgreeing");
            default -> call("agreeing", drawIndex(plain.countAgreeing()));
        }
    }

    private void drawFind() {
        switch (random.nextInt(5)) {
            case 0, 1 -> call("find", drawPlace(), draw("100?"));
            case 2, 3 -> call("found", drawPlace());
            default -> call("complete", draw("hvdr"));
        }
    }

    private void drawFamily() {
        int record = random.nextInt(12) - 1;
        switch (random.nextInt(6)) {
            case 0, 1 -> call("record", random.nextInt(270) - 5,
                    random.nextInt(10) == 0 ? random.nextInt(2020) - 10 : 100 * random.nextInt(6));
            case 2 -> call("parent", record);
            case 3 -> call("unlike", record, random.nextInt(11));
            case 4 -> call("middle", record, random.nextInt(11), random.nextInt(11));
            default -> call("meanOn");
        }
    }
}
