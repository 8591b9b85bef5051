import java.util.Random;

/** Promises 27, 28 and 45 for many small positions, against the plain model. */
public final class SolveTests {
    /** Positions whose winner is found late: one look over all positions does not tell it. */
    private static final String[] DEEP = {"h---kh---", "-h--k-h--", "--h-k--h-"};
    private static final int[] DEEP_RULES = {158, 156, 20};
    private static final Checks checks = new Checks();

    public static void main(String[] args) {
        int positions = args.length > 0 ? Integer.parseInt(args[0]) : 1500;
        Random random = new Random(args.length > 1 ? Long.parseLong(args[1]) : 11);
        for (int i = 0; i < DEEP.length; i++) {
            solveOne(DEEP[i], DEEP_RULES[i], true);
        }
        for (int i = 0; i < positions && checks.isClean(); i++) {
            solveDrawn(random);
        }
        solveAlongAGame(random);
        checks.end();
    }

    /** Many of the positions of one game, of each of which 368 to 400 can come. */
    private static void solveAlongAGame(Random random) {
        SurroundedKing x = Checks.boardOf("fl", true, "---", "hk-", "g--");
        for (int i = 0; i < 25 && checks.isClean(); i++) {
            int code = x.moveAt(random.nextInt(x.countMoves()));
            x.move(code / 100, code % 100);
            if (x.winner() != '-') {
                x.undo();
            } else {
                solveOne(Checks.menOf(x), 68, x.isTurn());
            }
        }
    }

    /** Rules by which neither side wins soon, so that solutions are deep, and some positions are nobody's. */
    private static void solveDrawn(Random random) {
        int size = random.nextInt(8) == 0 ? 5 : 3;
        String men = drawnMen(random, size);
        int rules = random.nextInt(256);
        if (random.nextInt(4) > 0) {
            rules = (rules | 4 | 64) & ~1;
        }
        solveOne(men, rules, random.nextBoolean());
    }

    private static void solveOne(String men, int rules, boolean isHunters) {
        int size = men.length() == 9 ? 3 : 5;
        SurroundedKing own = new SurroundedKing();
        PlainKing plain = new PlainKing();
        own.board(size);
        plain.board(size);
        for (int pass = 0; pass < 2; pass++) {
            for (int place = 0; place < size * size; place++) {
                if ((men.charAt(place) == 'k') == (pass == 0) && plain.at(place) != 'k') {
                    own.put(place, men.charAt(place));
                    plain.put(place, men.charAt(place));
                }
            }
        }
        own.setRules(rules);
        plain.setRules(rules);
        own.begin(isHunters);
        plain.begin(isHunters);
        String told = men + " by " + rules + (isHunters ? " hunters" : " guards");
        String due = countOf(plain::countPositions) + " " + countOf(plain::solve);
        checks.same(told, countOf(own::countPositions) + " " + countOf(own::solve), due);
        checks.same(told + " is sound", own.isSound(), true);
    }

    private static String drawnMen(Random random, int size) {
        char[] men = "-".repeat(size * size).toCharArray();
        int hunters = size == 3 ? 1 + random.nextInt(4) : 8 + random.nextInt(8);
        int guards = random.nextInt(3) == 0 ? random.nextInt(4) : 0;
        for (int i = 0; i < hunters + guards; i++) {
            men[random.nextInt(men.length)] = i < hunters ? 'h' : 'g';
        }
        men[random.nextInt(men.length)] = 'k';
        return new String(men);
    }

    private static String countOf(java.util.concurrent.Callable<?> call) {
        try {
            return String.valueOf(call.call());
        } catch (ArithmeticException e) {
            return "too many";
        } catch (Exception e) {
            return e.getClass().getSimpleName();
        }
    }
}
