import java.util.NoSuchElementException;

/** The boundary cases that "Terms" names of ends, repetitions, the 200 moves and games taken back. */
public final class BoundEndTests {
    private static final int[] SIZES = {3, 5, 7};
    /** A hunter goes to and fro, the king round over 25 places: a position comes again behind 50 rounds of both. */
    private static final int[] TOUR = {8, 9, 10, 11, 12, 19, 18, 17, 16, 23, 24, 25, 26, 33, 32, 31, 30, 37, 38, 39, 40,
        36, 29, 22, 15};
    /** The king round over 8 places, and a hunter over 7: a position comes again behind 56 rounds of both. */
    private static final int[] RING = {16, 17, 18, 25, 32, 31, 30, 23};
    private static final Checks checks = new Checks();

    public static void main(String[] args) {
        aGameBeginsWithoutAKing();
        aGameBeginsWithoutKingAndHunters();
        aGameBeginsWithoutHunters();
        aGameBeginsWithoutHuntersAndGuardsCannotMove();
        aGameBeginsWithHuntersWhoCannotMove();
        aGameBeginsWithGuardsWhoCannotMove();
        aGameBeginsWithNobodyWhoCanMove();
        theKingsWayIsNotLookedAtAsAGameBegins();
        surroundingIsNotLookedAtAsAGameBegins();
        theKingGetsAwayAtEachCorner();
        theKingGetsAwayAtEachEdgePlaceWithE();
        onlyTheKingGetsAway();
        theKingGetsAwayThoughHuntersCannotMove();
        theLastHunterIsTaken();
        theKingIsTakenThoughGuardsCouldMove();
        huntersSurroundWithN();
        surroundingAtTheEdgeCannotBe();
        surroundingOfEachGuard();
        surroundingBehindAMoveOfTheirsAlone();
        surroundsWhateverTheRules();
        whoIsToMoveAndCannotLoses();
        theThirdTimeIsLostForWhoBroughtIt();
        thePositionOfTheBeginningIsIncluded();
        theTurnIsPartOfThePosition();
        theThirdTimeOverMovesTakenBack();
        theThirdTimeTakenBackAndBroughtAgain();
        countsBeginAnewAsMenOrRulesAreTold();
        countsStayAsOtherThingsAreTold();
        behind199AndBehind200Moves();
        theThirdTimeAsMove200();
        theKingGetsAwayAsMove200();
        theKingIsTakenAsMove200();
        move200TakenBack();
        undoToTheBeginning();
        undoOfEachEnd();
        theTurnPassesBehindTheLastMove();
        checks.end();
    }

    // ---- as a game begins

    /** A game of which the king was taken, with a guard and hunters left. */
    private static SurroundedKing kingTaken() {
        SurroundedKing x = Checks.boardOf("", true, "g----", "---h-", "-hk--", "-----", "-----");
        checks.same("the king is taken", x.move(8, 13) + " " + x.king(), "1 -1");
        return x;
    }

    private static void aGameBeginsWithoutAKing() {
        for (boolean isHunters : new boolean[] {true, false}) {
            SurroundedKing x = kingTaken();
            x.begin(isHunters);
            checks.same("hunters win", x.winner() + " " + x.countMade() + " " + x.repeats(), "h 0 1");
            checks.same("no king", x.king() + " " + x.at(12) + " " + x.surrounds(), "-1 - false");
            checks.same("no moves", x.countMoves() + " " + x.canMove(11, 12) + " " + x.canMove(0, 1), "0 false false");
            checks.same("worths", x.worth() + " " + x.search(1) + " " + x.search(2), "-1000 -1000 -1000");
            checks.same("solved", x.countPositions() + " " + x.solve() + " " + x.isSound(), "1 h true");
            checks.same("not kept as it began", x.kept('h'), 1);
            checks.same("the king comes again", x.put(12, 'k') + " " + x.winner() + " " + x.king(), "- - 12");
        }
    }

    /** "in this order: the king is taken, .. no hunter is left". */
    private static void aGameBeginsWithoutKingAndHunters() {
        SurroundedKing x = kingTaken();
        x.put(11, '-');
        x.put(13, '-');
        checks.same("hunters win though none is left", x.count('h') + " " + x.winner(), "0 h");
        x.put(3, 'k');
        checks.same("guards win with the king", x.winner(), 'g');
    }

    private static void aGameBeginsWithoutHunters() {
        for (int size : SIZES) {
            SurroundedKing x = new SurroundedKing();
            checks.same("a new object", x.winner() + " " + x.countMoves(), "g 0");
            x.board(size);
            checks.same("a board of " + size, x.winner() + " " + x.worth() + " " + x.solve(), "g 1000 g");
            x.put(0, 'g');
            x.begin(false);
            checks.same("in the turn of guards", x.winner() + " " + x.countMoves(), "g 0");
            x.put(1, 'h');
            checks.same("with a hunter", x.winner(), '-');
            x.put(1, 'g');
            checks.same("with a guard instead of him", x.winner() + " " + x.kept('-'), "g 0");
        }
    }

    /** "in this order: .. no hunter is left, .. who is to move cannot". */
    private static void aGameBeginsWithoutHuntersAndGuardsCannotMove() {
        SurroundedKing x = Checks.boardOf("", false, "ggg", "gkg", "ggg");
        checks.same("guards win", x.winner(), 'g');
    }

    private static void aGameBeginsWithHuntersWhoCannotMove() {
        SurroundedKing x = Checks.boardOf("", true, "hg---", "g----", "--k--", "-----", "-----");
        checks.same("guards win", x.winner() + " " + x.worth() + " " + x.countPositions() + " " + x.solve(),
                "g 1000 1 g");
        x.begin(false);
        checks.same("not in the turn of guards", x.winner(), '-');
        x.put(5, '-');
        x.begin(true);
        checks.same("one way is enough", x.winner() + " " + x.countMoves(), "- 4");
    }

    private static void aGameBeginsWithGuardsWhoCannotMove() {
        SurroundedKing x = Checks.boardOf("", false, "kh---", "h----", "-----", "-----", "-----");
        checks.same("hunters win", x.winner() + " " + x.worth() + " " + x.countPositions() + " " + x.solve(),
                "h -1000 1 h");
        x.begin(true);
        checks.same("not in the turn of hunters", x.winner(), '-');
        x.put(24, 'g');
        x.begin(false);
        checks.same("one guard is enough", x.winner() + " " + x.countMoves(), "- 8");
    }

    private static void aGameBeginsWithNobodyWhoCanMove() {
        SurroundedKing x = Checks.boardOf("", true, "hgh", "gkg", "hgh");
        checks.same("hunters are to move", x.winner(), 'g');
        x.begin(false);
        checks.same("guards are to move", x.winner(), 'h');
        checks.same("not kept", x.kept('-'), 0);
    }

    private static void theKingsWayIsNotLookedAtAsAGameBegins() {
        for (boolean isHunters : new boolean[] {true, false}) {
            SurroundedKing corner = Checks.boardOf("", isHunters, "k--", "---", "--h");
            checks.same("at a corner", corner.winner(), '-');
            corner.rule('e', true);
            checks.same("as e is told", corner.winner(), '-');
            corner.put(3, 'k');
            checks.same("as he is put at the edge", corner.winner(), '-');
        }
    }

    private static void surroundingIsNotLookedAtAsAGameBegins() {
        for (boolean isHunters : new boolean[] {true, false}) {
            SurroundedKing x = Checks.boardOf("n", isHunters, "-hhh-", "h---h", "h-k-h", "h---h", "-hhh-");
            checks.same("surrounded", x.surrounds() + " " + x.winner(), "true -");
        }
    }

    // ---- the king's way, no hunter, the king taken

    private static boolean isEdge(int size, int place) {
        return place < size || place >= size * size - size || place % size == 0 || place % size == size - 1;
    }

    private static boolean isCorner(int size, int place) {
        return place == 0 || place == size - 1 || place == size * size - size || place == size * size - 1;
    }

    /** A king without arms goes to each place from those next to it, and a hunter stands apart. */
    private static void kingGoes(int rules, boolean isAtEdge) {
        for (int size : SIZES) {
            for (int to = 0; to < size * size; to++) {
                kingGoesTo(size, to, to % size > 0 ? to - 1 : to + 1, rules, isAtEdge);
                kingGoesTo(size, to, to >= size ? to - size : to + size, rules, isAtEdge);
            }
        }
    }

    private static void kingGoesTo(int size, int to, int from, int rules, boolean isAtEdge) {
        SurroundedKing x = new SurroundedKing();
        x.board(size);
        x.setRules(rules | 2);
        if (from != x.king()) {
            x.put(from, 'k');
        }
        int apart = size * size - 1;
        while (apart == to || apart == from) {
            apart--;
        }
        x.put(apart, 'h');
        x.begin(false);
        x.move(from, to);
        boolean isAway = isAtEdge ? isEdge(size, to) : isCorner(size, to);
        checks.same("from " + from + " to " + to + " of " + size, x.winner(), isAway ? 'g' : '-');
    }

    private static void theKingGetsAwayAtEachCorner() {
        kingGoes(0, false);
    }

    private static void theKingGetsAwayAtEachEdgePlaceWithE() {
        kingGoes(1, true);
    }

    private static void onlyTheKingGetsAway() {
        SurroundedKing x = Checks.boardOf("e", false, "k-g--", "-----", "-----", "-----", "h----");
        checks.same("not as a guard moves along the edge", x.move(2, 4) + " " + x.winner(), "0 -");
        checks.same("not as a hunter does", x.move(20, 24) + " " + x.winner(), "0 -");
        checks.same("but as he does", x.move(0, 1) + " " + x.winner(), "0 g");
        SurroundedKing off = Checks.boardOf("", false, "-----", "-----", "g-k--", "-----", "--h--");
        checks.same("not a guard at a corner", off.move(10, 0) + " " + off.winner(), "0 -");
        checks.same("not a hunter at a corner", off.move(22, 24) + " " + off.winner(), "0 -");
    }

    private static void theKingGetsAwayThoughHuntersCannotMove() {
        SurroundedKing x = Checks.boardOf("", false, "---gh", "----g", "k----", "-----", "-----");
        checks.same("a corner, and hunters cannot move", x.move(10, 0) + " " + x.winner(), "0 g");
        SurroundedKing y = Checks.boardOf("", false, "-hg--", "-----", "k----", "-----", "-----");
        checks.same("a corner, and no hunter is left", y.move(10, 0) + " " + y.winner(), "1 g");
    }

    private static void theLastHunterIsTaken() {
        SurroundedKing x = Checks.boardOf("", false, "-----", "--k--", "--h--", "g----", "-----");
        checks.same("by a guard", x.move(15, 17) + " " + x.winner() + " " + x.kept('g'), "1 g 1");
        SurroundedKing one = Checks.boardOf("", false, "-----", "--k--", "--h--", "g----", "----h");
        checks.same("one is left", one.move(15, 17) + " " + one.winner(), "1 -");
        SurroundedKing both = Checks.boardOf("", false, "--g--", "--h--", "k----", "--h--", "--g--");
        checks.same("two last ones at once", both.move(10, 12) + " " + both.winner() + " " + both.count('h'), "2 g 0");
    }

    private static void theKingIsTakenThoughGuardsCouldMove() {
        checks.same("hunters win", kingTaken().winner(), 'h');
        SurroundedKing x = Checks.boardOf("", true, "-----", "---h-", "-hk--", "-----", "-----");
        checks.same("nobody is left to move", x.move(8, 13) + " " + x.winner() + " " + x.isTurn(), "1 h false");
    }

    // ---- surrounding

    private static final String[] CLOSED = {"-------", "--hhh--", "-h---h-", "-h-k-h-", "-h---h-", "--hhh--",
        "------h"};

    private static void huntersSurroundWithN() {
        SurroundedKing x = Checks.boardOf("nf", true, CLOSED);
        x.put(26, '-');
        checks.same("an open way", x.surrounds() + " " + x.winner(), "false -");
        checks.same("a move that does not close it", x.move(48, 47) + " " + x.winner(), "0 -");
        x.undo();
        checks.same("a move that closes it", x.move(48, 27) + " " + x.surrounds() + " " + x.winner(), "0 true h");
        x.undo();
        x.rule('n', false);
        checks.same("without n", x.move(48, 27) + " " + x.surrounds() + " " + x.winner(), "0 true -");
    }

    private static void surroundingAtTheEdgeCannotBe() {
        SurroundedKing x = Checks.boardOf("n", true, "-kh--", "hh---", "-----", "-----", "----h");
        checks.same("a king at the edge", x.surrounds() + " " + x.move(24, 23) + " " + x.winner(), "false 0 -");
        SurroundedKing y = Checks.boardOf("n", true, "h-h--", "hkh--", "-h---", "-----", "----h");
        checks.same("a king next to it", y.surrounds() + " " + y.move(24, 23) + " " + y.winner(), "false 0 -");
        y.put(1, 'h');
        checks.same("not any more", y.surrounds(), true);
        SurroundedKing three = Checks.boardOf("", false, "-h-", "hkh", "-h-");
        checks.same("on a board of 3", three.surrounds(), true);
        three.put(1, '-');
        checks.same("on a board of 3 with a way", three.surrounds(), false);
    }

    private static void surroundingOfEachGuard() {
        String[] rows = {"-------", "--h-h--", "-hkhgh-", "--h-h--", "-------", "-------", "h------"};
        SurroundedKing x = Checks.boardOf("n", true, rows);
        checks.same("the king and a guard, each one by himself", x.surrounds(), true);
        x.put(25, '-');
        checks.same("a way from the guard", x.surrounds() + " " + x.move(42, 43) + " " + x.winner(), "false 0 -");
        x.put(25, 'h');
        x.put(23, '-');
        checks.same("a way from the king", x.surrounds(), false);
        SurroundedKing ring = Checks.boardOf("nf", true, CLOSED);
        ring.put(16, 'g');
        ring.put(32, 'g');
        checks.same("guards within", ring.surrounds() + " " + ring.move(48, 47) + " " + ring.winner(), "true 0 h");
        ring.put(0, 'g');
        ring.begin(true);
        checks.same("one at the edge outside", ring.surrounds() + " " + ring.move(47, 48) + " " + ring.winner(),
                "false 0 -");
        SurroundedKing way = Checks.boardOf("nf", true, CLOSED);
        way.put(26, 'g');
        checks.same("over a guard's place", way.surrounds() + " " + way.move(48, 47) + " " + way.winner(), "false 0 -");
    }

    private static void surroundingBehindAMoveOfTheirsAlone() {
        SurroundedKing x = Checks.boardOf("nf", false, CLOSED);
        checks.same("behind a move of the king", x.move(24, 25) + " " + x.surrounds() + " " + x.winner(), "0 true -");
        checks.same("behind the next of hunters", x.move(48, 47) + " " + x.winner(), "0 h");
        checks.same("taken back", x.undo() + " " + x.winner() + " " + x.surrounds(), "1 - true");
    }

    private static void surroundsWhateverTheRules() {
        SurroundedKing closed = Checks.boardOf("", true, CLOSED);
        SurroundedKing open = Checks.boardOf("", true, CLOSED);
        open.put(38, '-');
        for (int rules = 0; rules < 256; rules += 5) {
            closed.setRules(rules);
            open.setRules(rules);
            checks.same("by " + rules, closed.surrounds() + " " + open.surrounds(), "true false");
        }
        checks.same("false if the king is taken", kingTaken().surrounds(), false);
        SurroundedKing nobody = Checks.boardOf("n", true, "-----", "---h-", "-hk--", "-----", "-----");
        checks.same("also with no guard", nobody.move(8, 13) + " " + nobody.surrounds(), "1 false");
        SurroundedKing within = Checks.boardOf("n", true, CLOSED);
        within.put(17, 'h');
        within.put(32, 'h');
        within.put(25, 'g');
        checks.same("also with a guard shut in", within.surrounds() + " " + within.move(32, 31) + " " + within.king()
                + " " + within.count('g') + " " + within.surrounds(), "true 1 -1 1 false");
    }

    // ---- who is to move and cannot

    private static void whoIsToMoveAndCannotLoses() {
        SurroundedKing guards = Checks.boardOf("f", true, "kh---", "---h-", "-----", "-----", "-----");
        checks.same("guards", guards.move(8, 5) + " " + guards.winner() + " " + guards.countMoves(), "0 h 0");
        SurroundedKing hunters = Checks.boardOf("", false, "h---g", "g----", "--k--", "-----", "-----");
        checks.same("hunters", hunters.move(4, 1) + " " + hunters.winner() + " " + hunters.countMoves(), "0 g 0");
        SurroundedKing corner = Checks.boardOf("pl", false, "-h--g", "-g---", "--k--", "-----", "-----");
        checks.same("a corner is left, with p", Checks.go(corner, "4-3") + " " + corner.winner(), "0 -");
        checks.same("and only that", Checks.go(corner, "1-2 12-13") + " " + corner.winner(), "0 -");
        SurroundedKing shut = Checks.boardOf("pl", false, "-h-g-", "-g---", "--k--", "-----", "-----");
        checks.same("hunters by p", shut.move(3, 2) + " " + shut.winner(), "0 g");
        SurroundedKing king = Checks.boardOf("plf", true, "-k-h-", "-h---", "-----", "-----", "-----");
        checks.same("the king is not shut in by p", king.move(3, 2) + " " + king.winner(), "0 -");
    }

    // ---- the third time

    private static final String TO_AND_FRO = "0-1 12-13 1-0 13-12 ";

    private static SurroundedKing hunterAndKing(boolean isHunters) {
        return Checks.boardOf("", isHunters, "h----", "-----", "--k--", "-----", "-----");
    }

    private static void theThirdTimeIsLostForWhoBroughtIt() {
        SurroundedKing guards = hunterAndKing(true);
        Checks.go(guards, TO_AND_FRO + "0-1 12-13 1-0");
        checks.same("the second times", guards.repeats() + " " + guards.winner(), "2 -");
        checks.same("guards bring it", guards.move(13, 12) + " " + guards.repeats() + " " + guards.winner(), "0 3 h");
        checks.same("the worth of it", guards.worth() + " " + guards.search(1) + " " + guards.search(2),
                "-1000 -1000 -1000");
        SurroundedKing hunters = hunterAndKing(false);
        Checks.go(hunters, "12-13 0-1 13-12 1-0 12-13 0-1 13-12");
        checks.same("the second times again", hunters.repeats() + " " + hunters.winner(), "2 -");
        checks.same("hunters bring it", hunters.move(1, 0) + " " + hunters.repeats() + " " + hunters.winner(), "0 3 g");
        checks.same("the worth of that", hunters.worth() + " " + hunters.search(1) + " " + hunters.search(2),
                "1000 1000 1000");
    }

    private static void thePositionOfTheBeginningIsIncluded() {
        SurroundedKing x = hunterAndKing(true);
        checks.same("as a game begins", x.repeats(), 1);
        checks.same("another one comes first", Checks.go(x, "0-2 12-7") + " " + x.repeats(), "0 1");
        Checks.go(x, "2-1 7-8 1-2 8-7 2-1 7-8 1-2");
        checks.same("eight moves behind the beginning", x.winner() + " " + x.countMade(), "- 9");
        checks.same("eight moves behind that one", x.move(8, 7) + " " + x.repeats() + " " + x.winner(), "0 3 h");
    }

    private static void theTurnIsPartOfThePosition() {
        SurroundedKing x = hunterAndKing(true);
        checks.same("the men as at first, in the other turn", Checks.go(x, "0-1 12-13 1-2 13-12 2-0") + " "
                + x.repeats(), "0 1");
        checks.same("the men as at first, in that turn", Checks.go(x, "12-13 0-1 13-14 1-0 14-12") + " " + x.repeats(),
                "0 2");
        checks.same("and in the other one again", Checks.go(x, "0-1 12-13 1-2 13-12 2-0") + " " + x.repeats() + " "
                + x.winner(), "0 2 -");
    }

    private static void theThirdTimeOverMovesTakenBack() {
        SurroundedKing x = hunterAndKing(true);
        Checks.go(x, TO_AND_FRO);
        for (int i = 0; i < 5; i++) {
            checks.same("taken back", x.undo() + " " + x.repeats() + " " + x.winner(), "3 1 -");
            checks.same("brought again", x.move(13, 12) + " " + x.repeats() + " " + x.winner(), "0 2 -");
        }
        while (x.countMade() > 0) {
            x.undo();
        }
        checks.same("all taken back", x.repeats(), 1);
        Checks.go(x, TO_AND_FRO + "0-1 12-13 1-0");
        checks.same("counted from the beginning alone", x.winner() + " " + x.repeats(), "- 2");
        checks.same("then the third time", x.move(13, 12) + " " + x.winner(), "0 h");
    }

    private static void theThirdTimeTakenBackAndBroughtAgain() {
        SurroundedKing x = hunterAndKing(true);
        Checks.go(x, TO_AND_FRO + TO_AND_FRO);
        checks.same("over", x.winner() + " " + x.countMade() + " " + x.countMoves(), "h 8 0");
        checks.same("taken back", x.undo() + " " + x.winner() + " " + x.repeats(), "7 - 2");
        checks.same("brought again", x.move(13, 12) + " " + x.winner() + " " + x.repeats(), "0 h 3");
        x.undo();
        x.undo();
        checks.same("by another way", Checks.go(x, "1-2 13-14 2-0 14-12") + " " + x.winner() + " " + x.repeats() + " "
                + x.countMade(), "0 h 3 10");
    }

    private static void countsBeginAnewAsMenOrRulesAreTold() {
        Checks.Call[] told = {x -> x.put(24, '-'), x -> x.put(0, 'h'), x -> x.rule('e', false), x -> x.setRules(0),
            x -> x.begin(true)};
        for (int i = 0; i < told.length; i++) {
            SurroundedKing x = hunterAndKing(true);
            Checks.go(x, TO_AND_FRO);
            checks.same("came twice", x.repeats(), 2);
            try {
                told[i].on(x);
            } catch (Exception e) {
                checks.same("told as it is, " + i, e, "nothing thrown");
            }
            checks.same("told as it is, " + i, x.repeats() + " " + x.countMade() + " " + x.winner(), "1 0 -");
            Checks.go(x, TO_AND_FRO);
            checks.same("twice in the new game, " + i, x.repeats() + " " + x.winner(), "2 -");
            Checks.go(x, TO_AND_FRO);
            checks.same("three times in the new game, " + i, x.repeats() + " " + x.winner(), "3 h");
        }
    }

    private static void countsStayAsOtherThingsAreTold() {
        SurroundedKing x = hunterAndKing(true);
        Checks.go(x, TO_AND_FRO);
        x.seed(5);
        x.know('e', '1');
        x.tie('e', true, 'w', true);
        x.untie();
        x.find(0, '1');
        x.complete('h');
        x.record(5, 5);
        x.search(2);
        x.isSound();
        checks.same("no game begins", x.repeats() + " " + x.countMade(), "2 4");
        Checks.go(x, TO_AND_FRO);
        checks.same("the third time", x.winner(), 'h');
    }

    // ---- 200 moves

    /** So many moves of a hunter in the first row and the king in the ring; hunters move first, or guards. */
    private static SurroundedKing walk(String rules, int first, boolean isHunters, int moves, String more) {
        SurroundedKing x = new SurroundedKing();
        x.board(7);
        x.put(16, 'k');
        x.put(first, 'h');
        for (String place : more.trim().split(" +")) {
            if (!place.isEmpty()) {
                x.put(Integer.parseInt(place), 'h');
            }
        }
        for (char rule : rules.toCharArray()) {
            x.rule(rule, true);
        }
        x.begin(isHunters);
        for (int i = 0; i < moves; i++) {
            int round = i / 2;
            if (isHunters == (i % 2 == 0)) {
                x.move((first + round) % 7, (first + round + 1) % 7);
            } else {
                x.move(RING[round % 8], RING[(round + 1) % 8]);
            }
        }
        return x;
    }

    private static void behind199AndBehind200Moves() {
        for (boolean isHunters : new boolean[] {true, false}) {
            SurroundedKing x = walk("", 0, isHunters, 199, "");
            checks.same("behind 199", x.countMade() + " " + x.winner() + " " + (x.countMoves() > 0), "199 - true");
            SurroundedKing y = walk("", 0, isHunters, 200, "");
            checks.same("behind 200", y.countMade() + " " + y.winner() + " " + y.countMoves(), "200 = 0");
            checks.same("nobody wins", y.worth() + " " + y.kept('=') + " " + y.kept('-') + " " + y.isTurn(),
                    "0 1 1 " + isHunters);
            checks.same("a new game begins", y.begin(isHunters) + " " + y.countMade() + " " + y.winner(),
                    isHunters + " 0 -");
        }
    }

    /** "in this order: .. the third time, 200 moves". */
    private static void theThirdTimeAsMove200() {
        SurroundedKing x = new SurroundedKing();
        x.board(7);
        x.put(0, 'h');
        x.put(8, 'k');
        for (int i = 0; i < 100; i++) {
            checks.same("goes on", x.winner(), '-');
            x.move(i % 2, (i + 1) % 2);
            x.move(TOUR[i % 25], TOUR[(i + 1) % 25]);
        }
        checks.same("lost for guards", x.countMade() + " " + x.repeats() + " " + x.winner(), "200 3 h");
        checks.same("kept", x.kept('h') + " " + x.kept('='), "1 0");
    }

    private static void theKingGetsAwayAsMove200() {
        SurroundedKing x = walk("e", 0, true, 199, "");
        checks.same("guards win", x.move(25, 27) + " " + x.countMade() + " " + x.winner(), "0 200 g");
    }

    private static void theKingIsTakenAsMove200() {
        SurroundedKing x = walk("", 0, false, 199, "27 39");
        checks.same("hunters win", x.move(27, 25) + " " + x.countMade() + " " + x.winner(), "1 200 h");
        SurroundedKing n = walk("fn", 1, false, 199, "10 11 15 19 22 26 29 33 37 38 39");
        checks.same("hunters surround", n.winner() + " " + n.move(2, 9) + " " + n.countMade() + " " + n.winner(),
                "- 0 200 h");
    }

    private static void move200TakenBack() {
        SurroundedKing x = walk("e", 0, true, 200, "");
        checks.same("taken back", x.undo() + " " + x.winner(), "199 -");
        checks.same("another one", x.move(25, 24) + " " + x.winner() + " " + x.kept('=') + x.kept('-'), "0 = 11");
        checks.same("taken back again", x.undo() + " " + x.undo() + " " + x.winner(), "199 198 -");
        checks.same("198 and one", x.move(1, 3) + " " + x.countMade() + " " + x.winner(), "0 199 -");
        checks.same("the king gets away", x.move(25, 27) + " " + x.winner() + " " + x.kept('g') + " " + x.kept('='),
                "0 g 0 1");
    }

    // ---- moves taken back

    private static void undoToTheBeginning() {
        SurroundedKing x = Checks.boardOf("tc", true, "h--h--h", "-g---g-", "-------", "h--k--h", "-------", "-g---g-",
                "h--h--h");
        String before = Checks.stateOf(x);
        int made = x.play(40);
        for (int left = made - 1; left >= 0; left--) {
            checks.same("undo", x.undo(), left);
        }
        x.seed(1);
        checks.same("all as at the beginning", withoutKept(Checks.stateOf(x)), withoutKept(before));
        checks.thrown(x, "undo of none", NoSuchElementException.class, () -> x.undo());
    }

    /** The tenth word is that of games kept, which are not taken back. */
    private static String withoutKept(String state) {
        String[] words = state.split(" ");
        words[9] = "";
        return String.join(" ", words);
    }

    private static void undoOfEachEnd() {
        SurroundedKing taken = kingTaken();
        checks.same("the king taken", taken.undo() + " " + taken.winner() + " " + taken.king(), "0 - 12");
        SurroundedKing away = Checks.boardOf("", false, "-k---", "-----", "-----", "-----", "----h");
        checks.same("the king away", away.move(1, 0) + " " + away.winner() + " " + away.undo() + " " + away.winner()
                + " " + away.king(), "0 g 0 - 1");
        SurroundedKing none = Checks.boardOf("", false, "-----", "--k--", "--h--", "g----", "-----");
        checks.same("no hunter", none.move(15, 17) + " " + none.winner() + " " + none.undo() + " " + none.winner()
                + " " + none.at(12), "1 g 0 - h");
        SurroundedKing closed = Checks.boardOf("nf", true, CLOSED);
        checks.same("surrounded", closed.move(48, 47) + " " + closed.winner() + " " + closed.undo() + " "
                + closed.winner(), "0 h 0 -");
        SurroundedKing stuck = Checks.boardOf("f", true, "kh---", "---h-", "-----", "-----", "-----");
        checks.same("nobody can move", stuck.move(8, 5) + " " + stuck.winner() + " " + stuck.undo() + " "
                + stuck.winner() + " " + stuck.at(8), "0 h 0 - h");
    }

    private static void theTurnPassesBehindTheLastMove() {
        checks.same("the king taken", kingTaken().isTurn(), false);
        SurroundedKing away = Checks.boardOf("", false, "-k---", "-----", "-----", "-----", "----h");
        away.move(1, 0);
        checks.same("the king away", away.isTurn() + " " + away.begin(true), "true true");
        SurroundedKing third = hunterAndKing(true);
        Checks.go(third, TO_AND_FRO + TO_AND_FRO);
        checks.same("the third time", third.isTurn(), true);
    }
}
