import java.math.BigInteger;

/** The boundary cases that "Terms" names of searching, playing, solving and games kept. */
public final class BoundSearchTests {
    /** Moves from and to on a board of 3, by which each position comes at most twice, and nobody wins. */
    private static final String LONG_GAME =
            "3045016712742143143047037830875476036736784785745243256758748541581085345803854752362163103401451058"
            + "0174128721761245216312302154120321301201251258258743745245215410470176106734784185035436456758768763"
            + "7630670378348745785285145845875476416725745243253054034736786314304301871076016712742145123421521025"
            + "0347345845745247217410870345307403413012035430470321307403103647630136126374364367217634674574124154";
    private static final Checks checks = new Checks();

    public static void main(String[] args) {
        theWorthOfMenAndMoves();
        theWorthAsIfItWereTheKingsTurn();
        theWorthOfAKingWhoCannotMove();
        theWorthIfSomebodyHasWon();
        ofLikeOnesTheFirstMove();
        guardsTakeTheGreatestAndHuntersTheLeast();
        anEndAheadOfTheDepth();
        searchesLeaveRepetitionsAside();
        searchesLeaveThe200MovesAside();
        searchesOfAGameThatIsOver();
        zAt1();
        zAt2147483646();
        zOfWhichTheMoveIsDrawn();
        playsUntilTheGameIsOver();
        playsSoManyMoves();
        playsNothingOfAGameThatIsOver();
        eachPositionIsCountedOnce();
        thePositionOfAGameThatIsOver();
        aKingAtACornerWithAGameThatGoesOn();
        whoCanMakeSureToWin();
        nobodyCanMakeSureToWin();
        fourHundredPositionsAndOneMore();
        solvedThoughOverByRepetition();
        solvedThoughOverBy200Moves();
        solvedAsTakenBack();
        keptByAMove();
        notKeptAsAGameBegins();
        keptOnceOverSeveralEnds();
        keptOnceOverUnlikeEnds();
        keptAgainAsAnotherGame();
        keptByRulesetAndBoard();
        keptByPlaying();
        keptManyTimes();
        theBalanceOfNoneAndOfAll();
        theBalanceOfHalves();
        theBalanceIsRoundedAsAFloat();
        checks.end();
    }

    // ---- worths

    private static void theWorthOfMenAndMoves() {
        SurroundedKing x = Checks.boardOf("", true, "h----", "-----", "--k--", "-----", "-----");
        checks.same("8 moves, one hunter", x.worth(), 10);
        x.put(4, 'h');
        checks.same("another hunter", x.worth(), 4);
        x.put(24, 'g');
        checks.same("a guard", x.worth(), 14);
        x.put(13, 'g');
        checks.same("a guard in the way", x.worth(), 20);
        x.rule('l', true);
        checks.same("one place each", x.worth(), 14);
        SurroundedKing three = Checks.boardOf("", true, "h--", "-k-", "---");
        checks.same("a board of 3", three.worth(), 2);
        SurroundedKing seven = new SurroundedKing();
        seven.board(7);
        seven.put(0, 'h');
        checks.same("a board of 7", seven.worth(), 18);
    }

    private static void theWorthAsIfItWereTheKingsTurn() {
        for (boolean isHunters : new boolean[] {true, false}) {
            SurroundedKing x = Checks.boardOf("p", isHunters, "h----", "-----", "-----", "-----", "--k--");
            checks.same("to the throne and to corners", x.worth(), 10);
        }
    }

    private static void theWorthOfAKingWhoCannotMove() {
        SurroundedKing x = Checks.boardOf("", true, "kg---", "g----", "-----", "-----", "----h");
        checks.same("two guards and a hunter", x.worth(), 14);
        x.put(1, 'h');
        x.put(5, 'h');
        x.put(23, 'g');
        checks.same("a guard and three hunters", x.worth(), -8);
    }

    private static void theWorthIfSomebodyHasWon() {
        checks.same("guards, as a game begins", new SurroundedKing().worth(), 1000);
        SurroundedKing away = Checks.boardOf("", false, "-k---", "g----", "-----", "-----", "----h");
        checks.same("guards", away.move(1, 0) + " " + away.worth(), "0 1000");
        SurroundedKing taken = Checks.boardOf("", true, "g----", "---h-", "-hk--", "-----", "-----");
        checks.same("hunters", taken.move(8, 13) + " " + taken.worth(), "1 -1000");
        taken.undo();
        checks.same("nobody, as it is taken back", taken.worth(), 10 - 12 + 12);
    }

    // ---- searches

    private static void ofLikeOnesTheFirstMove() {
        SurroundedKing guards = Checks.boardOf("l", false, "h----", "-----", "--k--", "-----", "----g");
        checks.same("guards", guards.search(1) + " " + guards.best(1), "12 1207");
        SurroundedKing hunters = Checks.boardOf("l", true, "h---h", "-----", "--k--", "-----", "-----");
        checks.same("hunters", hunters.search(1) + " " + hunters.best(1), "-4 1");
        checks.same("of depth 2 too", hunters.search(2) + " " + hunters.best(2), "-4 1");
        SurroundedKing ends = Checks.boardOf("e", false, "-----", "-----", "--k--", "-----", "h----");
        checks.same("of like ends", ends.search(1) + " " + ends.best(1) + " " + ends.best(2), "1000 1202 1202");
    }

    private static void guardsTakeTheGreatestAndHuntersTheLeast() {
        SurroundedKing guards = Checks.boardOf("l", false, "--k--", "-----", "-----", "-----", "h----");
        checks.same("guards", guards.search(1) + " " + guards.best(1), "2 207");
        SurroundedKing hunters = Checks.boardOf("l", true, "h--", "-k-", "---");
        checks.same("hunters", hunters.search(1) + " " + hunters.best(1), "0 1");
        SurroundedKing takes = Checks.boardOf("l", true, "-h---", "-----", "hg---", "-----", "----k");
        takes.put(7, 'h');
        checks.same("hunters take a guard, not the first move", takes.search(1) + " " + takes.best(1), "-14 712");
        checks.same("guards answer with the greatest", takes.search(2) + " " + takes.best(2), "-12 712");
    }

    private static void anEndAheadOfTheDepth() {
        SurroundedKing takes = Checks.boardOf("", true, "g----", "---h-", "-hk--", "-----", "-----");
        checks.same("behind one move", takes.search(2) + " " + takes.best(2), "-1000 813");
        SurroundedKing answer = Checks.boardOf("l", true, "-k---", "-----", "-----", "h----", "----h");
        checks.same("behind an answer", answer.search(1) + " " + answer.search(2), "-6 1000");
        SurroundedKing away = Checks.boardOf("e", false, "-----", "-----", "--k--", "-----", "h----");
        checks.same("the king away", away.search(2) + " " + away.best(2), "1000 1202");
        SurroundedKing shut = Checks.boardOf("fn", true, "-------", "--hhh--", "-h---h-", "-h-k---", "-h---h-",
                "--hhh--", "------h");
        checks.same("surrounded, though guards could move", shut.search(2) + " " + shut.best(2), "-1000 4827");
        SurroundedKing last = Checks.boardOf("l", false, "-----", "--k--", "--h--", "-----", "--g--");
        checks.same("no hunter is left", last.search(1) + " " + last.search(2) + " " + last.best(2), "1000 1000 2217");
    }

    /** The first of like moves brings the third time, and is told all the same. */
    private static void searchesLeaveRepetitionsAside() {
        SurroundedKing guards = Checks.boardOf("l", true, "h----", "--k--", "-----", "-----", "-----");
        Checks.go(guards, "0-1 7-12 1-0 12-7 0-1 7-12 1-0");
        checks.same("of guards", guards.search(1) + " " + guards.best(1) + " " + guards.best(2), "2 1207 1207");
        checks.same("it is lost for them", guards.move(12, 7) + " " + guards.winner(), "0 h");
        SurroundedKing hunters = Checks.boardOf("l", false, "h----", "-----", "--k--", "-----", "-----");
        Checks.go(hunters, "12-13 0-1 13-12 1-0 12-13 0-1 13-12");
        checks.same("of hunters", hunters.search(1) + " " + hunters.best(1) + " " + hunters.search(2) + " "
                + hunters.best(2), "2 100 2 100");
        checks.same("it is lost for these", hunters.move(1, 0) + " " + hunters.winner(), "0 g");
    }

    private static SurroundedKing longGame(int moves) {
        SurroundedKing x = Checks.boardOf("fl", true, "---", "hk-", "g--");
        for (int i = 0; i < moves; i++) {
            x.move(LONG_GAME.charAt(2 * i) - '0', LONG_GAME.charAt(2 * i + 1) - '0');
        }
        return x;
    }

    /** The same position in a game that begins with it. */
    private static SurroundedKing begunAs(SurroundedKing other) {
        String men = Checks.menOf(other);
        return Checks.boardOf("fl", other.isTurn(), men.substring(0, 3), men.substring(3, 6), men.substring(6));
    }

    private static void searchesLeaveThe200MovesAside() {
        for (int made = 198; made < 200; made++) {
            SurroundedKing x = longGame(made);
            SurroundedKing fresh = begunAs(x);
            checks.same("goes on behind " + made, x.winner() + " " + x.countMade(), "- " + made);
            checks.same("depth 1 behind " + made, x.search(1) + " " + x.best(1), fresh.search(1) + " " + fresh.best(1));
            checks.same("depth 2 behind " + made, x.search(2) + " " + x.best(2), fresh.search(2) + " " + fresh.best(2));
        }
    }

    private static void searchesOfAGameThatIsOver() {
        SurroundedKing nobody = longGame(200);
        checks.same("nobody's", nobody.winner() + " " + nobody.worth() + " " + nobody.search(1) + " "
                + nobody.search(2), "= 0 0 0");
        SurroundedKing none = new SurroundedKing();
        checks.same("guards'", none.search(1) + " " + none.search(2), "1000 1000");
        SurroundedKing stuck = Checks.boardOf("", false, "kh---", "h----", "-----", "-----", "-----");
        checks.same("hunters'", stuck.search(1) + " " + stuck.search(2), "-1000 -1000");
    }

    // ---- playing

    /** The z that becomes another one as a move is made. */
    private static int zAhead(int z) {
        BigInteger modulus = BigInteger.valueOf(2147483647);
        BigInteger inverse = BigInteger.valueOf(48271).modInverse(modulus);
        return BigInteger.valueOf(z).multiply(inverse).mod(modulus).intValueExact();
    }

    /** Plays one move with a z, and returns it; the z behind it is checked. */
    private static int playedWith(int z, int zDue) {
        SurroundedKing x = Checks.boardOf("", true, "h--", "-k-", "--h");
        SurroundedKing twin = Checks.boardOf("", true, "h--", "-k-", "--h");
        x.seed(z);
        checks.same("one move with " + z, x.play(1) + " " + x.countMade(), "1 1");
        checks.same("z behind " + z, x.seed(z), zDue);
        int moves = twin.countMoves();
        for (int i = 0; i < moves; i++) {
            int code = twin.moveAt(i);
            twin.move(code / 100, code % 100);
            if (Checks.menOf(twin).equals(Checks.menOf(x))) {
                return code;
            }
            twin.undo();
        }
        return -1;
    }

    private static final int[] MOVES_OF_8 = {1, 2, 3, 6, 802, 805, 806, 807};
    private static final int BEST_OF_8 = 1;

    private static void zAt1() {
        checks.same("1 becomes 48271, by which the best one is made", playedWith(1, 48271), BEST_OF_8);
    }

    /** 2147435376 is 4 times 536858844, of which 4 is left by 8. */
    private static void zAt2147483646() {
        checks.same("2147483646 becomes 2147435376", playedWith(2147483646, 2147435376), MOVES_OF_8[4]);
    }

    private static void zOfWhichTheMoveIsDrawn() {
        SurroundedKing x = Checks.boardOf("", true, "h--", "-k-", "--h");
        checks.same("eight moves, and the best one", x.countMoves() + " " + x.best(1), "8 " + BEST_OF_8);
        for (int index = 0; index < 20; index++) {
            int z = 4 * index;
            if (z > 0) {
                checks.same("drawn with " + z, playedWith(zAhead(z), z), MOVES_OF_8[index % 8]);
            }
            for (int left = 1; left < 4; left++) {
                checks.same("not drawn with " + (z + left), playedWith(zAhead(z + left), z + left), BEST_OF_8);
            }
        }
        checks.same("the greatest of all", playedWith(zAhead(2147483646), 2147483646), BEST_OF_8);
        checks.same("the greatest that is drawn", playedWith(zAhead(2147483644), 2147483644), MOVES_OF_8[7]);
    }

    private static void playsUntilTheGameIsOver() {
        SurroundedKing x = Checks.boardOf("", true, "g----", "---h-", "-hk--", "-----", "-----");
        checks.same("a move of 60", x.play(60) + " " + x.winner() + " " + x.countMade(), "1 h 1");
        checks.same("z for one move", x.seed(1), 48271);
        SurroundedKing y = longGame(198);
        y.seed(1);
        checks.same("up to 200 moves", y.play(60) <= 2 && y.winner() != '-', true);
    }

    private static void playsSoManyMoves() {
        for (int moves : new int[] {1, 2, 59, 60}) {
            SurroundedKing x = Checks.boardOf("l", true, "h-----h", "-------", "-------", "---k---", "-------",
                    "-------", "h-----h");
            x.seed(19);
            checks.same("play(" + moves + ")", x.play(moves) + " " + x.countMade() + " " + x.winner(),
                    moves + " " + moves + " -");
        }
    }

    private static void playsNothingOfAGameThatIsOver() {
        SurroundedKing x = new SurroundedKing();
        checks.same("as it begins", x.play(60) + " " + x.seed(1) + " " + x.countMade(), "0 1 0");
        SurroundedKing nobody = longGame(200);
        checks.same("behind 200 moves", nobody.play(1) + " " + nobody.seed(1) + " " + nobody.countMade(), "0 1 200");
    }

    // ---- solving

    /**
     * The king comes back to the corner where the game began, by which it ends: that position is counted once.
     * Hunters 3 to 5, the king 2 to 1 or 0, hunters 5 to 3, the king 1 to 0, 2, 4 or 7, hunters 3 to 5, the king
     * 7 to 6, 8, 4 or 1: the twelve that come.
     */
    private static void eachPositionIsCountedOnce() {
        SurroundedKing x = Checks.boardOf("tcpn", true, "--k", "h--", "---");
        checks.same("twelve positions", x.countPositions() + " " + x.solve() + " " + x.isSound(), "12 g true");
        checks.same("one of them", Checks.go(x, "3-5 2-1") + " " + x.countPositions(), "0 10");
        checks.same("the first one ends now", Checks.go(x, "5-3 1-2") + " " + x.winner() + " " + x.repeats() + " "
                + x.countPositions(), "0 g 2 1");
    }

    private static void thePositionOfAGameThatIsOver() {
        SurroundedKing none = new SurroundedKing();
        checks.same("as it begins", none.countPositions() + " " + none.solve(), "1 g");
        none.begin(false);
        checks.same("in the turn of guards", none.countPositions() + " " + none.solve() + " " + none.isSound(),
                "1 g true");
        none.board(3);
        none.put(0, 'h');
        none.rule('e', true);
        none.begin(false);
        checks.same("as it goes on then", none.countPositions() + " " + none.solve(), "5 g");
        none.put(0, '-');
        checks.same("and is over again", none.countPositions() + " " + none.solve(), "1 g");
        SurroundedKing taken = Checks.boardOf("", true, "---", "hk-", "--h");
        checks.same("the king taken", taken.move(8, 5) + " " + taken.countPositions() + " " + taken.solve(), "1 1 h");
        SurroundedKing away = Checks.boardOf("", false, "-k---", "-----", "-----", "-----", "----h");
        checks.same("the king away", away.move(1, 0) + " " + away.countPositions() + " " + away.solve(), "0 1 g");
        SurroundedKing stuck = Checks.boardOf("", false, "kh---", "h----", "-----", "-----", "-----");
        checks.same("nobody can move", stuck.countPositions() + " " + stuck.solve() + " " + stuck.isSound(),
                "1 h true");
    }

    /** He is not away, as he did not move there: hunters shut him in. */
    private static void aKingAtACornerWithAGameThatGoesOn() {
        SurroundedKing x = Checks.boardOf("fl", true, "kh-", "---", "h--");
        checks.same("hunters win", x.solve() + " " + x.search(1), "h -1000");
        checks.same("by one move", x.move(6, 3) + " " + x.winner(), "0 h");
    }

    private static void whoCanMakeSureToWin() {
        checks.same("guards, by one move", Checks.boardOf("efl", false, "h--", "-k-", "---").solve(), 'g');
        checks.same("guards, whatever hunters do", Checks.boardOf("efl", true, "h--", "-k-", "---").solve(), 'g');
        checks.same("hunters, by one move", Checks.boardOf("", true, "---", "hk-", "--h").solve(), 'h');
        checks.same("hunters, whatever guards do", Checks.boardOf("l", false, "hhh", "-k-", "hhh").solve(), 'h');
    }

    private static void nobodyCanMakeSureToWin() {
        SurroundedKing x = Checks.boardOf("fl", true, "--h", "-k-", "h-h");
        checks.same("nobody", x.solve() + " " + x.isSound(), "= true");
        x.begin(false);
        checks.same("guards, in their turn", x.solve() + " " + x.isSound(), "g true");
    }

    private static void fourHundredPositionsAndOneMore() {
        SurroundedKing most = Checks.boardOf("fl", false, "---", "--k", "-hg");
        checks.same("400", most.countPositions() + " " + most.solve() + " " + most.isSound(), "400 g true");
        SurroundedKing more = Checks.boardOf("fl", false, "---", "k--", "hg-");
        checks.thrown(more, "401", ArithmeticException.class, () -> more.countPositions());
        checks.thrown(more, "401 solved", ArithmeticException.class, () -> more.solve());
        checks.same("sound without a solution", more.isSound(), true);
        more.board(3);
        checks.same("few again", more.countPositions() + " " + more.solve(), "1 g");
    }

    private static void solvedThoughOverByRepetition() {
        SurroundedKing x = longGame(0);
        String round = "3-0 4-1 0-3 1-4 ";
        checks.same("over", Checks.go(x, round + round) + " " + x.winner(), "0 h");
        checks.same("solved as if it went on", x.countPositions() + " " + x.solve() + " " + x.isSound(), "400 g true");
    }

    private static void solvedThoughOverBy200Moves() {
        SurroundedKing x = longGame(200);
        SurroundedKing fresh = begunAs(x);
        checks.same("over", x.winner() + " " + x.countMade() + " " + x.countMoves(), "= 200 0");
        checks.same("solved as if it went on", x.countPositions() + " " + x.solve() + " " + x.isSound(), "400 g true");
        checks.same("as in a game that begins so", fresh.countPositions() + " " + fresh.solve(), "400 g");
    }

    private static void solvedAsTakenBack() {
        SurroundedKing x = Checks.boardOf("efl", false, "h--", "-k-", "---");
        checks.same("over", x.move(4, 1) + " " + x.winner() + " " + x.countPositions(), "0 g 1");
        checks.same("taken back", x.undo() + " " + x.countPositions() + " " + x.solve(), "0 5 g");
    }

    // ---- games kept

    private static String keptOf(SurroundedKing x) {
        return x.kept('g') + " " + x.kept('h') + " " + x.kept('=') + " " + x.kept('-');
    }

    private static SurroundedKing kingNextToACorner() {
        return Checks.boardOf("", false, "-k---", "h--h-", "-----", "-----", "-----");
    }

    private static void keptByAMove() {
        SurroundedKing x = kingNextToACorner();
        checks.same("none", keptOf(x), "0 0 0 0");
        checks.same("guards win", x.move(1, 0) + " " + keptOf(x), "0 1 0 0 1");
        SurroundedKing h = Checks.boardOf("", true, "g----", "---h-", "-hk--", "-----", "-----");
        checks.same("hunters win", h.move(8, 13) + " " + keptOf(h), "1 0 1 0 1");
        checks.same("nobody wins", keptOf(longGame(200)), "0 0 1 1");
        checks.same("not behind 199", keptOf(longGame(199)), "0 0 0 0");
        SurroundedKing third = Checks.boardOf("", true, "h----", "-----", "--k--", "-----", "-----");
        Checks.go(third, "0-1 12-13 1-0 13-12 0-1 12-13 1-0 13-12");
        checks.same("by repetition", keptOf(third), "0 1 0 1");
    }

    private static void notKeptAsAGameBegins() {
        SurroundedKing x = new SurroundedKing();
        x.put(0, 'h');
        x.put(0, '-');
        x.begin(false);
        checks.same("over as it begins", x.winner() + " " + keptOf(x), "g 0 0 0 0");
        SurroundedKing stuck = Checks.boardOf("", false, "kh---", "h----", "-----", "-----", "-----");
        checks.same("hunters win as it begins", stuck.winner() + " " + keptOf(stuck), "h 0 0 0 0");
    }

    private static void keptOnceOverSeveralEnds() {
        SurroundedKing x = kingNextToACorner();
        for (int i = 0; i < 5; i++) {
            checks.same("the same end", x.move(1, 0) + " " + keptOf(x), "0 1 0 0 1");
            checks.same("taken back it stays", x.undo() + " " + keptOf(x), "0 1 0 0 1");
        }
    }

    /** The winner of the first end is that by whom it is kept. */
    private static void keptOnceOverUnlikeEnds() {
        SurroundedKing x = kingNextToACorner();
        x.move(1, 0);
        x.undo();
        checks.same("hunters win then", Checks.go(x, "1-6 8-7") + " " + x.winner() + " " + keptOf(x), "1 h 1 0 0 1");
        SurroundedKing y = kingNextToACorner();
        checks.same("hunters win first", Checks.go(y, "1-6 8-7") + " " + y.winner() + " " + keptOf(y), "1 h 0 1 0 1");
        y.undo();
        y.undo();
        checks.same("guards win then", y.move(1, 0) + " " + y.winner() + " " + keptOf(y), "0 g 0 1 0 1");
        checks.same("all taken back", y.undo() + " " + keptOf(y), "0 0 1 0 1");
        SurroundedKing nobody = longGame(200);
        nobody.undo();
        checks.same("nobody's stays", keptOf(nobody), "0 0 1 1");
    }

    private static void keptAgainAsAnotherGame() {
        Checks.Call[] told = {x -> x.begin(false), x -> x.put(24, '-'), x -> x.rule('e', false), x -> x.setRules(0)};
        for (int i = 0; i < told.length; i++) {
            SurroundedKing x = kingNextToACorner();
            x.move(1, 0);
            x.undo();
            try {
                told[i].on(x);
            } catch (Exception e) {
                checks.same("told as it is, " + i, e, "nothing thrown");
            }
            checks.same("another game, " + i, x.move(1, 0) + " " + keptOf(x), "0 2 0 0 2");
        }
        SurroundedKing x = kingNextToACorner();
        x.move(1, 0);
        x.put(1, 'k');
        x.begin(false);
        checks.same("men put as they were", Checks.go(x, "1-6 8-7") + " " + keptOf(x), "1 1 1 0 2");
    }

    private static void keptByRulesetAndBoard() {
        SurroundedKing x = kingNextToACorner();
        x.move(1, 0);
        for (int rules = 1; rules < 256; rules *= 2) {
            x.setRules(rules);
            checks.same("not of the ruleset " + rules, keptOf(x), "0 0 0 0");
        }
        x.setRules(0);
        checks.same("of that ruleset", keptOf(x), "1 0 0 1");
        for (int size : new int[] {3, 7}) {
            x.board(size);
            checks.same("not of a board of " + size, keptOf(x), "0 0 0 0");
        }
        x.board(5);
        checks.same("of that board", keptOf(x), "1 0 0 1");
        x.setRules(255);
        x.put(24, 'h');
        x.put(7, 'k');
        x.begin(false);
        checks.same("of all rules", x.move(7, 2) + " " + x.winner() + " " + keptOf(x), "0 g 1 0 0 1");
    }

    private static void keptByPlaying() {
        SurroundedKing x = Checks.boardOf("", true, "g----", "---h-", "-hk--", "-----", "-----");
        checks.same("one game", x.play(60) + " " + keptOf(x), "1 0 1 0 1");
        checks.same("once", x.undo() + " " + x.play(60) + " " + keptOf(x), "0 1 0 1 0 1");
    }

    /** As many games as 512 calls of an object can keep, less some. */
    private static void keptManyTimes() {
        SurroundedKing x = Checks.boardOf("", false, "-k---", "-----", "-----", "-----", "----h");
        for (int games = 1; games <= 160; games++) {
            x.move(1, 0);
            x.undo();
            x.begin(false);
        }
        checks.same("160 games", keptOf(x), "160 0 0 160");
        checks.same("all of them", x.balanceBits(), 0x3f800000);
    }

    /** A game that hunters win by one move, on a board of 3 with f and l. */
    private static void huntersWin(SurroundedKing x) {
        x.board(3);
        x.put(0, 'k');
        x.put(1, 'h');
        x.put(6, 'h');
        x.move(6, 3);
    }

    private static void guardsWin(SurroundedKing x) {
        x.board(3);
        x.put(1, 'k');
        x.put(8, 'h');
        x.begin(false);
        x.move(1, 0);
    }

    private static void theBalanceOfNoneAndOfAll() {
        SurroundedKing x = new SurroundedKing();
        x.setRules(68);
        huntersWin(x);
        checks.same("none of one", x.balanceBits(), 0);
        huntersWin(x);
        checks.same("none of two", x.balanceBits(), 0);
        guardsWin(x);
        checks.same("one of three", keptOf(x) + " " + x.balanceBits(), "1 2 0 3 " + 0x3eaaaaab);
        x.setRules(0);
        checks.thrown(x, "of another ruleset", ArithmeticException.class, () -> x.balanceBits());
        guardsWin(x);
        checks.same("one of one", x.balanceBits(), 0x3f800000);
    }

    private static void theBalanceOfHalves() {
        SurroundedKing x = longGame(200);
        checks.same("half of one", keptOf(x) + " " + x.balanceBits(), "0 0 1 1 " + 0x3f000000);
        huntersWin(x);
        checks.same("half of two", keptOf(x) + " " + x.balanceBits(), "0 1 1 2 " + 0x3e800000);
        huntersWin(x);
        checks.same("half of three", x.balanceBits(), Float.floatToIntBits(0.5f / 3f));
        guardsWin(x);
        checks.same("one and a half of four", x.balanceBits(), 0x3ec00000);
        guardsWin(x);
        checks.same("two and a half of five", x.balanceBits(), 0x3f000000);
        guardsWin(x);
        checks.same("three and a half of six", x.balanceBits(), Float.floatToIntBits(3.5f / 6f));
    }

    private static void theBalanceIsRoundedAsAFloat() {
        SurroundedKing x = new SurroundedKing();
        int games = 0;
        int won = 0;
        for (int i = 0; i < 80; i++) {
            boolean isWon = i * i % 7 < 3;
            if (isWon) {
                guardsWin(x);
            } else {
                huntersWin(x);
            }
            games++;
            won += isWon ? 1 : 0;
            checks.same(won + " of " + games, x.balanceBits(), Float.floatToIntBits((float) won / (float) games));
        }
    }
}
