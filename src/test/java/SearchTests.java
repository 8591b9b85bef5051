import java.math.BigInteger;

/** Promises 22 to 30: searching, playing, solving, games kept. */
public final class SearchTests {
    private static final Class<IllegalArgumentException> WRONG = IllegalArgumentException.class;
    private static final Class<IllegalStateException> OVER = IllegalStateException.class;
    private static final Class<ArithmeticException> TOO_MANY = ArithmeticException.class;
    private static final Checks checks = new Checks();

    public static void main(String[] args) {
        promise22Worth();
        promise23And24Search();
        promise23And24SearchToEnds();
        promise23And24Exceptions();
        promise25Play();
        promise25PlayToTheEnd();
        promise26Seed();
        promise27CountPositions();
        promise28Solve();
        promise28SolveTheGameThatWentOn();
        promise27And28TooMany();
        promise29Kept();
        promise29KeptOnce();
        promise30Balance();
        checks.end();
    }

    private static void promise22Worth() {
        SurroundedKing x = Checks.boardOf("", true, "h----", "-g---", "--k--", "-----", "-----");
        checks.same("10 - 6 + 2 * 8", x.worth(), 20);
        x.begin(false);
        checks.same("the same in the other turn", x.worth(), 20);
        x.rule('l', true);
        checks.same("10 - 6 + 2 * 4", x.worth(), 12);
        x.put(7, 'g');
        x.put(24, 'h');
        checks.same("20 - 12 + 2 * 3", x.worth(), 14);
        SurroundedKing p = Checks.boardOf("p", true, "h----", "-----", "-----", "-----", "--k--");
        checks.same("the king goes to the throne and to corners, as if it were his turn", p.worth(), 10);
        checks.same("guards have won", new SurroundedKing().worth(), 1000);
        SurroundedKing y = Checks.boardOf("", true, "-----", "---h-", "-hk--", "-----", "-----");
        checks.same("goes on", y.worth(), 2 * 6 - 12);
        y.move(8, 13);
        checks.same("hunters have won", y.worth(), -1000);
    }

    private static void promise23And24Search() {
        SurroundedKing x = Checks.boardOf("", true, "h--", "-k-", "--h");
        checks.same("depth 1 of hunters", x.search(1) + " " + x.best(1), "-6 1");
        checks.same("depth 2 of hunters", x.search(2) + " " + x.best(2), "-4 1");
        x.begin(false);
        checks.same("depth 1 of guards", x.search(1) + " " + x.best(1), "-6 401");
        checks.same("depth 2 of guards", x.search(2) + " " + x.best(2), "-1000 401");
        checks.same("nothing moves", Checks.menOf(x) + x.countMade(), "h---k---h0");
        SurroundedKing y = Checks.boardOf("l", false, "--k--", "-----", "-----", "-----", "h----");
        checks.same("the greatest, not the first", y.search(1) + " " + y.best(1), "2 207");
        checks.same("nor at depth 2", y.search(2) + " " + y.best(2), "2 207");
    }

    private static void promise23And24SearchToEnds() {
        SurroundedKing takes = Checks.boardOf("", true, "-----", "---h-", "-hk--", "-----", "-----");
        checks.same("hunters take the king", takes.search(1) + " " + takes.best(1), "-1000 813");
        checks.same("as far as the end", takes.search(2) + " " + takes.best(2), "-1000 813");
        SurroundedKing goes = Checks.boardOf("", false, "-----", "-----", "----k", "-----", "h----");
        checks.same("the king gets away", goes.search(1) + " " + goes.best(1), "1000 1404");
        checks.same("the first of like ones", goes.search(2) + " " + goes.best(2), "1000 1404");
        SurroundedKing stops = Checks.boardOf("l", true, "-k---", "-----", "-----", "h----", "----h");
        checks.same("hunters stop no corner", stops.search(2), 1000);
        SurroundedKing may = Checks.boardOf("l", true, "-k---", "h----", "-----", "-----", "----h");
        checks.same("hunters stop the corner", may.search(2) + " " + may.best(2), "-4 500");
        SurroundedKing again = Checks.boardOf("l", true, "h--g-", "-----", "--k-g", "-----", "---g-");
        int[][] round = {{0, 1}, {12, 13}, {1, 0}, {13, 12}};
        for (int i = 0; i < 7; i++) {
            again.move(round[i % 4][0], round[i % 4][1]);
        }
        checks.same("repetitions aside", again.search(1) + " " + again.best(1), "32 1312");
        again.move(13, 12);
        checks.same("the worth of a game that is over", again.search(1) + " " + again.search(2), "-1000 -1000");
        checks.same("the worth of a new object", new SurroundedKing().search(2), 1000);
    }

    private static void promise23And24Exceptions() {
        SurroundedKing x = Checks.boardOf("", true, "h--", "-k-", "--h");
        SurroundedKing over = new SurroundedKing();
        for (int depth : new int[] {0, 3, -1, Integer.MIN_VALUE, Integer.MAX_VALUE}) {
            checks.thrown(x, "search(" + depth + ")", WRONG, () -> x.search(depth));
            checks.thrown(x, "best(" + depth + ")", WRONG, () -> x.best(depth));
            checks.thrown(over, "search(" + depth + ") over", WRONG, () -> over.search(depth));
            checks.thrown(over, "best(" + depth + ") over", WRONG, () -> over.best(depth));
        }
        checks.thrown(over, "best(1) of a game that is over", OVER, () -> over.best(1));
        checks.thrown(over, "best(2) of a game that is over", OVER, () -> over.best(2));
    }

    /** A z that becomes another one as a move is drawn. */
    private static int zAhead(int z) {
        BigInteger modulus = BigInteger.valueOf(2147483647);
        BigInteger factor = BigInteger.valueOf(48271);
        return BigInteger.valueOf(z).multiply(factor.modInverse(modulus)).mod(modulus).intValueExact();
    }

    private static void promise25Play() {
        for (int z = 20; z < 80; z++) {
            SurroundedKing x = Checks.boardOf("", true, "h--", "-k-", "--h");
            x.seed(zAhead(z));
            int due = z % 4 == 0 ? x.moveAt(z / 4 % 8) : x.best(1);
            checks.same("play(1)", x.play(1), 1);
            checks.same("z", x.seed(1), z);
            checks.same("made", x.countMade(), 1);
            checks.same("moved to with " + z, x.at(due % 100) + "" + x.at(due / 100), "h-");
        }
        SurroundedKing x = Checks.boardOf("l", true, "h------", "-------", "-------", "---k---", "-------",
                "-------", "------h");
        checks.same("play(3)", x.play(3) + " " + x.countMade(), "3 3");
        checks.same("z behind three", x.seed(1), 1291394886);
        for (int moves : new int[] {0, -1, 61, Integer.MIN_VALUE, Integer.MAX_VALUE}) {
            checks.thrown(x, "play(" + moves + ")", WRONG, () -> x.play(moves));
        }
    }

    private static void promise25PlayToTheEnd() {
        SurroundedKing x = Checks.boardOf("", true, "-----", "---h-", "-hk--", "-----", "-----");
        x.seed(zAhead(1));
        checks.same("play(60)", x.play(60), 1);
        checks.same("winner", x.winner() + " " + x.kept('h'), "h 1");
        checks.same("play of a game that is over", x.play(1), 0);
        checks.same("z stays then", x.seed(1), 1);
        SurroundedKing y = Checks.boardOf("f", true, "h-----h", "-------", "-------", "-g-k-g-", "-------",
                "-------", "h-----h");
        int made = y.play(60);
        checks.same("played as told", y.countMade(), made);
        checks.same("over or all made", made == 60 || y.winner() != '-', true);
        SurroundedKing over = new SurroundedKing();
        checks.same("over at first", over.play(60) + " " + over.seed(1) + " " + over.kept('-'), "0 1 0");
    }

    private static void promise26Seed() {
        SurroundedKing x = new SurroundedKing();
        checks.same("first", x.seed(2147483646), 1);
        checks.same("last", x.seed(1), 2147483646);
        checks.same("again", x.seed(7), 1);
        x.put(0, 'h');
        x.move(0, 1);
        x.seed(9);
        checks.same("no game begins", x.countMade(), 1);
        for (int z : new int[] {0, -1, 2147483647, Integer.MIN_VALUE}) {
            checks.thrown(x, "seed(" + z + ")", WRONG, () -> x.seed(z));
        }
        x.seed(2147483646);
        x.play(1);
        checks.same("z does not overflow", x.seed(1), 2147483647 - 48271);
    }

    private static void promise27CountPositions() {
        SurroundedKing x = Checks.boardOf("efl", false, "h--", "-k-", "---");
        checks.same("the position, and four ends", x.countPositions(), 5);
        x.begin(true);
        checks.same("two moves, and three ends of each", x.countPositions(), 9);
        checks.same("a game that is over", new SurroundedKing().countPositions(), 1);
        SurroundedKing y = Checks.boardOf("", true, "-h-", "-k-", "---");
        checks.same("of all ways", y.countPositions(), 108);
        checks.same("nothing moves", Checks.menOf(y) + y.countMade(), "-h--k----0");
    }

    private static void promise28Solve() {
        checks.same("the king gets away", Checks.boardOf("efl", false, "h--", "-k-", "---").solve(), 'g');
        checks.same("whatever hunters do", Checks.boardOf("efl", true, "h--", "-k-", "---").solve(), 'g');
        checks.same("hunters take", Checks.boardOf("", true, "---", "hk-", "--h").solve(), 'h');
        checks.same("hunters take whatever guards do", Checks.boardOf("l", false, "hhh", "-k-", "hhh").solve(), 'h');
        checks.same("nobody can make sure", Checks.boardOf("fl", true, "--h", "-k-", "h-h").solve(), '=');
        checks.same("over as it begins", new SurroundedKing().solve(), 'g');
        SurroundedKing taken = Checks.boardOf("", true, "---", "hk-", "--h");
        taken.move(8, 5);
        checks.same("over by a move", taken.solve() + " " + taken.countPositions(), "h 1");
        checks.same("one way ends, the other does not", Checks.boardOf("elf", true, "-k-", "---", "h--").solve(), 'g');
    }

    private static void promise28SolveTheGameThatWentOn() {
        SurroundedKing x = Checks.boardOf("fl", true, "--h", "-k-", "h-h");
        int positions = x.countPositions();
        int[][] round = {{2, 1}, {4, 3}, {1, 2}, {3, 4}};
        for (int i = 0; i < 8; i++) {
            x.move(round[i % 4][0], round[i % 4][1]);
        }
        checks.same("over by repetition", x.winner(), 'h');
        checks.same("solved as if it went on", x.solve() + " " + x.countPositions(), "= " + positions);
        checks.same("isSound", x.isSound(), true);
    }

    private static void promise27And28TooMany() {
        SurroundedKing x = Checks.boardOf("", true, "h----", "-----", "--k--", "-----", "-----");
        checks.thrown(x, "countPositions of too many", TOO_MANY, () -> x.countPositions());
        checks.thrown(x, "solve of too many", TOO_MANY, () -> x.solve());
        checks.same("isSound of too many", x.isSound(), true);
        SurroundedKing most = Checks.boardOf("fl", false, "---", "--k", "-hg");
        checks.same("just as many", most.countPositions() + " " + most.solve(), "400 g");
        SurroundedKing more = Checks.boardOf("fl", false, "---", "k--", "hg-");
        checks.thrown(more, "countPositions of 401", TOO_MANY, () -> more.countPositions());
        checks.thrown(more, "solve of 401", TOO_MANY, () -> more.solve());
        checks.same("again just as many", most.countPositions() + " " + most.isSound(), "400 true");
    }

    /** A game that guards win by one move. */
    private static void winByGuards(SurroundedKing x, int size) {
        x.board(size);
        x.put(size * size - 1, 'h');
        x.put(1, 'k');
        x.begin(false);
        x.move(1, 0);
        checks.same("guards won", x.winner(), 'g');
    }

    /** A game that hunters win by one move. */
    private static void winByHunters(SurroundedKing x) {
        x.board(5);
        x.put(11, 'h');
        x.put(8, 'h');
        x.move(8, 13);
        checks.same("hunters won", x.winner(), 'h');
    }

    private static void promise29Kept() {
        SurroundedKing x = new SurroundedKing();
        winByGuards(x, 5);
        winByGuards(x, 5);
        winByHunters(x);
        checks.same("kept", x.kept('g') + " " + x.kept('h') + " " + x.kept('=') + " " + x.kept('-'), "2 1 0 3");
        x.rule('t', true);
        checks.same("not of another ruleset", x.kept('-') + " " + x.kept('g'), "0 0");
        winByGuards(x, 5);
        checks.same("of that ruleset", x.kept('-') + " " + x.kept('g'), "1 1");
        x.board(7);
        checks.same("not of another board", x.kept('-'), 0);
        winByGuards(x, 7);
        winByGuards(x, 3);
        checks.same("of that board", x.kept('-'), 1);
        x.setRules(0);
        x.board(5);
        checks.same("of the first ones again", x.kept('g') + " " + x.kept('h') + " " + x.kept('-'), "2 1 3");
        for (char winner : new char[] {'x', 'k', 'G', '0', 0, (char) 0x4167}) {
            checks.thrown(x, "kept(" + winner + ")", WRONG, () -> x.kept(winner));
        }
    }

    private static void promise29KeptOnce() {
        SurroundedKing x = new SurroundedKing();
        x.put(0, '-');
        checks.same("over as it begins is not kept", x.winner() + " " + x.kept('-'), "g 0");
        x.put(4, 'h');
        x.put(2, 'k');
        x.begin(false);
        x.move(2, 0);
        checks.same("kept by a move", x.kept('g'), 1);
        x.undo();
        checks.same("kept though taken back", x.kept('g'), 1);
        x.move(2, 0);
        checks.same("once for the same end", x.kept('g'), 1);
        SurroundedKing y = Checks.boardOf("", false, "-k---", "h--h-", "-----", "-----", "-----");
        y.move(1, 0);
        checks.same("one end", y.winner(), 'g');
        y.undo();
        y.move(1, 6);
        y.move(8, 7);
        checks.same("another end", y.winner(), 'h');
        checks.same("once for all ends", y.kept('g') + " " + y.kept('h') + " " + y.kept('-'), "1 0 1");
        y.undo();
        y.begin(true);
        y.move(8, 7);
        checks.same("another game", y.kept('g') + " " + y.kept('h') + " " + y.kept('-'), "1 1 2");
    }

    private static void promise30Balance() {
        SurroundedKing x = new SurroundedKing();
        checks.thrown(x, "balanceBits of none", TOO_MANY, () -> x.balanceBits());
        winByHunters(x);
        checks.same("none of one", x.balanceBits(), 0);
        winByGuards(x, 5);
        checks.same("one of two", x.balanceBits(), Float.floatToIntBits(0.5f));
        for (int all = 3; all < 50; all++) {
            winByHunters(x);
            checks.same("one of " + all, x.balanceBits(), Float.floatToIntBits(1f / all));
        }
        SurroundedKing y = new SurroundedKing();
        winByGuards(y, 5);
        checks.same("one of one", y.balanceBits(), Float.floatToIntBits(1f));
        winByHunters(y);
        for (int good = 2; good < 50; good++) {
            winByGuards(y, 5);
            checks.same(good + " less one", y.balanceBits(), Float.floatToIntBits((float) good / (float) (good + 1)));
        }
        y.board(3);
        checks.thrown(y, "balanceBits of another board", TOO_MANY, () -> y.balanceBits());
    }
}
