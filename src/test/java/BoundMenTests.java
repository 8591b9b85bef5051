/** The boundary cases that "Terms" names of boards, rules, moves and captures, a test for each sentence. */
public final class BoundMenTests {
    private static final int[] SIZES = {3, 5, 7};
    private static final int[][] WAYS = {{-1, 0}, {0, -1}, {0, 1}, {1, 0}};
    private static final Checks checks = new Checks();

    public static void main(String[] args) {
        aBoardIsOfFiveAtFirst();
        theThroneIsInTheMiddle();
        theCornersAreTheFourCorners();
        placesAreNumberedByRows();
        takingABoardLeavesWhatIsNotOfIt();
        takingTheSameBoardTakesItAnew();
        allRulesAreOffAtFirst();
        eachRuleIsABit();
        eachRuleIsItsOwnInAllRulesets();
        theKingIsMoved();
        huntersMoveFirstOnABoardThatIsTaken();
        otherwiseTheTurnIsAsItIs();
        menGoAlongRowsAndColumns();
        menGoOnePlaceWithL();
        nobodyGoesOverSomebody();
        menStandOnThroneAndCornersWithoutP();
        theThroneAndCornersAreForTheKingAlone();
        huntersAndGuardsGoOverAnEmptyThrone();
        nobodyGoesOverAThroneWithSomebody();
        whoStandsOnTheThroneGoesOff();
        withLNobodyGoesOverTheThrone();
        menAreTakenInEachWay();
        nobodyIsTakenAtTheEdge();
        threeAreTakenAtOnce();
        fourCannotBeTakenAtOnce();
        whoGoesBetweenTwoIsNotTaken();
        theEmptyThroneIsHostileToAll();
        aThroneWithSomebodyIsNot();
        emptyCornersAreHostileToAll();
        aCornerWithSomebodyIsNot();
        aKingWithoutArmsTakesNobody();
        aKingWithoutArmsDoesNotHelp();
        twoAtOnceAndTheKingAmongThem();
        theKingByFourAndAGuardAtOnce();
        theKingIsTakenByFourButAtTheEdge();
        theKingIsTakenByThreeAndTheEmptyThrone();
        threeAndAThroneWithSomebodyDoNot();
        theKingIsTakenByFourBehindAMoveNextToHim();
        aKingWhoGoesBetweenFourIsNotTaken();
        withFTheKingIsNotTakenByTwo();
        isHostileAsTheBoardStands();
        isHostileAsForTakingBetweenTwo();
        checks.end();
    }

    // ---- boards and rules

    private static void aBoardIsOfFiveAtFirst() {
        SurroundedKing x = new SurroundedKing();
        checks.same("places", Checks.menOf(x), "-".repeat(12) + "k" + "-".repeat(12));
        checks.same("size before", x.board(5), 5);
    }

    /** The places that are hostile to a guard, with no hunter there. */
    private static String hostilePlaces(int size, char rule) {
        SurroundedKing x = new SurroundedKing();
        x.board(size);
        x.put(1, 'k');
        x.rule(rule, true);
        StringBuilder places = new StringBuilder();
        for (int place = 0; place < size * size; place++) {
            places.append(x.isHostile(place, 'g') ? place + " " : "");
        }
        return places.toString().trim();
    }

    private static void theThroneIsInTheMiddle() {
        checks.same("throne of 3", hostilePlaces(3, 't'), "4");
        checks.same("throne of 5", hostilePlaces(5, 't'), "12");
        checks.same("throne of 7", hostilePlaces(7, 't'), "24");
        for (int size : SIZES) {
            SurroundedKing x = new SurroundedKing();
            x.board(size);
            checks.same("the king is on the throne of " + size, x.king(), size * size / 2);
            checks.same("nobody else is there", x.count('h') + " " + x.count('g'), "0 0");
        }
    }

    private static void theCornersAreTheFourCorners() {
        checks.same("corners of 3", hostilePlaces(3, 'c'), "0 2 6 8");
        checks.same("corners of 5", hostilePlaces(5, 'c'), "0 4 20 24");
        checks.same("corners of 7", hostilePlaces(7, 'c'), "0 6 42 48");
    }

    private static void placesAreNumberedByRows() {
        SurroundedKing x = Checks.boardOf("l", true, "-----", "-----", "--k--", "----h", "-----");
        checks.same("up, left and down of 19", x.moveAt(0) + " " + x.moveAt(1) + " " + x.moveAt(2), "1914 1918 1924");
        checks.same("not on in the next row", x.countMoves() + " " + x.canMove(19, 20), "3 false");
        x.put(19, '-');
        x.put(15, 'h');
        x.begin(true);
        checks.same("nor back in the row ahead", x.countMoves() + " " + x.canMove(15, 14), "3 false");
    }

    private static void takingABoardLeavesWhatIsNotOfIt() {
        SurroundedKing x = new SurroundedKing();
        x.setRules(9);
        x.seed(7);
        x.know('w', '1');
        x.tie('e', true, 'f', true);
        x.record(3, 3);
        x.find(24, '1');
        x.put(24, 'h');
        x.begin(false);
        checks.same("a game is kept", Checks.go(x, "12-2") + " " + x.winner() + " " + x.kept('-'), "0 g 1");
        checks.same("the size before", x.board(3) + " " + x.board(5), "5 3");
        checks.same("rules, z and games kept stay", x.rules() + " " + x.seed(1) + " " + x.kept('-'), "9 7 1");
        checks.same("what is known, ties and records stay", x.know('w', '?') + " " + x.untie() + " " + x.record(1, 1),
                "1 1 1");
        checks.same("the find is all broken", x.complete('h') + " " + x.found(24), "25 ?");
    }

    private static void takingTheSameBoardTakesItAnew() {
        for (int size : SIZES) {
            SurroundedKing x = new SurroundedKing();
            x.board(size);
            x.put(0, 'h');
            x.move(0, 1);
            x.find(0, '1');
            checks.same("board(" + size + ")", x.board(size), size);
            checks.same("the king alone", x.king() + " " + x.count('h'), size * size / 2 + " 0");
            checks.same("a new game", x.countMade() + " " + x.isTurn() + " " + x.repeats(), "0 true 1");
            checks.same("a new find", x.found(0), '?');
        }
    }

    private static void allRulesAreOffAtFirst() {
        checks.same("rules", new SurroundedKing().rules(), 0);
        for (char rule : "ewftcpln".toCharArray()) {
            checks.same("rule " + rule, new SurroundedKing().rule(rule, true), false);
        }
    }

    private static void eachRuleIsABit() {
        String letters = "ewftcpln";
        for (int i = 0; i < 8; i++) {
            SurroundedKing x = new SurroundedKing();
            x.setRules(255 - (1 << i));
            for (int j = 0; j < 8; j++) {
                checks.same("rule " + letters.charAt(j), x.rule(letters.charAt(j), true), i != j);
            }
            checks.same("all on", x.rules(), 255);
        }
    }

    /** What each rule does by itself is done in the 128 rulesets that have it, and in no other one. */
    private static void eachRuleIsItsOwnInAllRulesets() {
        for (int rules = 0; rules < 256; rules++) {
            StringBuilder due = new StringBuilder();
            for (int i = 0; i < 8; i++) {
                due.append((rules >> i) % 2 == 1 ? "ewftcpln".charAt(i) : '-');
            }
            checks.same("of the ruleset " + rules, rulesSeen(rules), due);
        }
    }

    /** The letters of the rules that can be seen by what is answered on a board with a ruleset. */
    private static String rulesSeen(int rules) {
        SurroundedKing away = boardBy(rules, false, "-----", "-----", "-k---", "-----", "----h");
        away.move(11, 10);
        SurroundedKing taken = boardBy(rules, true, "-----", "-----", "-----", "hk-h-", "-----");
        int byTwo = taken.move(18, 17);
        SurroundedKing seen = boardBy(rules, true, "-h---", "-----", "k----", "---g-", "-----");
        SurroundedKing shut = boardBy(rules, true, "-hhh-", "h---h", "h-k-h", "h---h", "-hhh-");
        shut.put(13, 'h');
        boolean isShut = shut.move(13, 8) == 0 && shut.winner() == 'h';
        return (away.winner() == 'g' ? "e" : "-") + (seen.isHostile(10, 'h') ? "-" : "w") + (byTwo == 0 ? "f" : "-")
                + (seen.isHostile(12, 'g') ? "t" : "-") + (seen.isHostile(24, 'g') ? "c" : "-")
                + (seen.canMove(1, 0) ? "-" : "p") + (seen.canMove(1, 3) ? "-" : "l") + (isShut ? "n" : "-");
    }

    private static SurroundedKing boardBy(int rules, boolean isHunters, String... rows) {
        SurroundedKing x = Checks.boardOf("", isHunters, rows);
        x.setRules(rules);
        return x;
    }

    private static void theKingIsMoved() {
        SurroundedKing x = Checks.boardOf("", true, "h--", "-k-", "g--");
        checks.same("to a free place", x.put(8, 'k') + Checks.menOf(x), "-h-----g-k");
        checks.same("to a hunter's place", x.put(0, 'k') + Checks.menOf(x), "hk-----g--");
        checks.same("to a guard's place", x.put(6, 'k') + Checks.menOf(x), "g------k--");
        checks.same("there is one king", x.king() + " " + x.count('h') + " " + x.count('g'), "6 0 0");
    }

    // ---- moves

    private static void huntersMoveFirstOnABoardThatIsTaken() {
        for (int size : SIZES) {
            SurroundedKing x = new SurroundedKing();
            x.begin(false);
            x.board(size);
            checks.same("on a board of " + size, x.isTurn(), true);
            x.put(0, 'h');
            x.move(0, 1);
            x.board(size);
            checks.same("behind one move", x.isTurn(), true);
        }
    }

    private static void otherwiseTheTurnIsAsItIs() {
        String[] rows = {"h--", "-k-", "--h"};
        SurroundedKing x = Checks.boardOf("", true, rows);
        x.move(0, 1);
        x.put(8, '-');
        checks.same("as a man is told", x.isTurn() + " " + x.countMade(), "false 0");
        x.move(4, 3);
        x.put(0, 'g');
        checks.same("as another one is told", x.isTurn() + " " + x.countMade(), "true 0");
        x.move(1, 2);
        x.rule('l', true);
        checks.same("as a rule is told", x.isTurn() + " " + x.countMade(), "false 0");
        x.move(3, 4);
        x.setRules(64);
        checks.same("as all rules are told as they are", x.isTurn() + " " + x.countMade(), "true 0");
        x.move(2, 5);
        x.undo();
        checks.same("as a move is taken back", x.isTurn() + " " + x.countMade(), "true 0");
    }

    private static String movesOf(SurroundedKing x) {
        StringBuilder moves = new StringBuilder();
        int count = x.countMoves();
        for (int i = 0; i < count; i++) {
            moves.append(x.moveAt(i)).append(' ');
        }
        return moves.toString();
    }

    /** The moves of one man at a place, with the king at another one in his way. */
    private static String movesDue(int size, int from, int king, int reach) {
        StringBuilder moves = new StringBuilder();
        for (int to = 0; to < size * size; to++) {
            boolean isRow = from / size == to / size;
            boolean isColumn = from % size == to % size;
            int steps = isRow ? Math.abs(from - to) : Math.abs(from - to) / size;
            boolean isBehind = isRow == (from / size == king / size) && isColumn == (from % size == king % size)
                    && Math.min(from, to) <= king && king <= Math.max(from, to);
            if (from != to && (isRow || isColumn) && steps <= reach && !isBehind) {
                moves.append(100 * from + to).append(' ');
            }
        }
        return moves.toString();
    }

    private static void menGoFromEachPlace(String rules, int reach) {
        for (int size : SIZES) {
            for (int from = 0; from < size * size; from++) {
                SurroundedKing x = new SurroundedKing();
                x.board(size);
                x.setRules(rules.equals("l") ? 64 : 0);
                int king = from == size * size / 2 ? 1 : size * size / 2;
                if (king == 1) {
                    x.put(1, 'k');
                }
                x.put(from, 'h');
                checks.same("moves from " + from + " of " + size, movesOf(x), movesDue(size, from, king, reach));
            }
        }
    }

    private static void menGoAlongRowsAndColumns() {
        menGoFromEachPlace("", 6);
    }

    private static void menGoOnePlaceWithL() {
        menGoFromEachPlace("l", 1);
    }

    private static void nobodyGoesOverSomebody() {
        for (char man : "hgk".toCharArray()) {
            SurroundedKing x = new SurroundedKing();
            x.put(10, 'h');
            x.put(13, man);
            if (man != 'k') {
                x.put(0, 'k');
            }
            checks.same("up to " + man, x.canMove(10, 12), true);
            checks.same("not where " + man + " is", x.canMove(10, 13), false);
            checks.same("not over " + man, x.canMove(10, 14), false);
        }
    }

    private static void menStandOnThroneAndCornersWithoutP() {
        SurroundedKing x = Checks.boardOf("", true, "-h---", "-----", "--h--", "-----", "-g--k");
        x.put(12, '-');
        x.put(2, 'h');
        checks.same("a hunter to a corner and the throne", x.canMove(1, 0) + " " + x.canMove(2, 12), "true true");
        x.put(22, 'g');
        x.begin(false);
        checks.same("a guard to a corner and the throne", x.canMove(21, 20) + " " + x.canMove(22, 12), "true true");
    }

    private static void theThroneAndCornersAreForTheKingAlone() {
        SurroundedKing x = Checks.boardOf("p", true, "-h-h-", "-----", "k-h--", "-----", "-h-h-");
        x.put(12, '-');
        x.put(2, 'h');
        checks.same("hunters to no corner", x.canMove(1, 0) + " " + x.canMove(3, 4) + " " + x.canMove(21, 20) + " "
                + x.canMove(23, 24), "false false false false");
        checks.same("hunters not to the throne", x.canMove(2, 12), false);
        checks.same("as many moves as are left", x.countMoves(), 17);
        x.begin(false);
        checks.same("the king to the throne", x.canMove(10, 12), true);
        checks.same("the king to corners", x.canMove(10, 0) + " " + x.canMove(10, 20), "true true");
        for (int size : SIZES) {
            SurroundedKing g = new SurroundedKing();
            g.board(size);
            g.setRules(32);
            g.put(1, 'g');
            g.put(size - 2, 'g');
            g.put(size * size - 2, 'g');
            g.put(size + size - 1, 'h');
            g.begin(false);
            checks.same("guards to no corner of " + size, g.canMove(1, 0) + " " + g.canMove(size - 2, size - 1) + " "
                    + g.canMove(size * size - 2, size * size - 1), "false false false");
        }
    }

    private static void huntersAndGuardsGoOverAnEmptyThrone() {
        SurroundedKing x = Checks.boardOf("p", true, "-----", "-----", "-h--k", "-----", "--g--");
        checks.same("a hunter", x.canMove(11, 12) + " " + x.canMove(11, 13), "false true");
        x.begin(false);
        checks.same("a guard", x.canMove(22, 12) + " " + x.canMove(22, 7) + " " + x.canMove(22, 2), "false true true");
        SurroundedKing three = Checks.boardOf("p", true, "-h-", "--k", "---");
        checks.same("on a board of 3", three.countMoves() + " " + three.moveAt(0), "1 107");
    }

    private static void nobodyGoesOverAThroneWithSomebody() {
        for (char man : "hgk".toCharArray()) {
            SurroundedKing x = Checks.boardOf("p", true, "-----", "-----", "h---k", "-----", "--g--");
            x.put(12, man);
            checks.same("a hunter over " + man, x.canMove(10, 11) + " " + x.canMove(10, 13), "true false");
            x.begin(false);
            checks.same("a guard over " + man, x.canMove(22, 17) + " " + x.canMove(22, 7), "true false");
        }
    }

    private static void whoStandsOnTheThroneGoesOff() {
        SurroundedKing x = Checks.boardOf("p", true, "g----", "-----", "--h--", "-----", "k----");
        checks.same("a hunter off the throne", x.canMove(12, 11) + " " + x.canMove(12, 2), "true true");
        x.begin(false);
        checks.same("a guard off a corner", x.canMove(0, 1) + " " + x.canMove(0, 4) + " " + x.canMove(0, 15),
                "true false true");
    }

    private static void withLNobodyGoesOverTheThrone() {
        SurroundedKing x = Checks.boardOf("pl", true, "-----", "--g--", "-h---", "---k-", "-----");
        checks.same("a hunter", x.canMove(11, 12) + " " + x.canMove(11, 13) + " " + x.countMoves(), "false false 3");
        x.begin(false);
        checks.same("a guard", x.canMove(7, 12) + " " + x.canMove(7, 17), "false false");
        checks.same("the king aside it", x.canMove(18, 13) + " " + x.canMove(18, 12), "true false");
    }

    // ---- captures

    private static void menAreTakenInEachWay() {
        for (int[] way : WAYS) {
            int step = 7 * way[0] + way[1];
            int aside = 7 * way[1] + way[0];
            SurroundedKing x = new SurroundedKing();
            x.board(7);
            x.put(8, 'k');
            x.rule('f', true);
            x.put(24 + step, 'g');
            x.put(24 + 2 * step, 'h');
            x.put(24 + aside, 'h');
            checks.same("a guard at " + (24 + step), x.move(24 + aside, 24) + " " + x.at(24 + step), "1 -");
            SurroundedKing y = new SurroundedKing();
            y.board(7);
            y.put(8, 'k');
            y.put(24 + step, 'h');
            y.put(24 + 2 * step, 'g');
            y.put(24 + aside, 'g');
            y.put(40, 'h');
            y.begin(false);
            checks.same("a hunter at " + (24 + step), y.move(24 + aside, 24) + " " + y.at(24 + step), "1 -");
        }
    }

    /** A guard at the edge, a hunter who comes next to him from within, and hunters at all the rest of the edge. */
    private static void nobodyIsTakenAtTheEdge() {
        int[][] ways = {{1, 6, 7}, {2, 7, 8}, {3, 8, 7}, {5, 6, 11}, {10, 11, 16}, {15, 16, 11}, {9, 8, 13},
            {14, 13, 18}, {19, 18, 13}, {21, 16, 17}, {22, 17, 18}, {23, 18, 17}};
        for (int[] way : ways) {
            SurroundedKing x = new SurroundedKing();
            x.setRules(4 + 8 + 16);
            for (int place = 0; place < 25; place++) {
                boolean isEdge = place < 5 || place > 19 || place % 5 == 0 || place % 5 == 4;
                if (isEdge || place == way[2]) {
                    x.put(place, place == way[0] ? 'g' : 'h');
                }
            }
            checks.same("a guard at the edge " + way[0], x.move(way[2], way[1]) + " " + x.at(way[0]), "0 g");
        }
    }

    private static void threeAreTakenAtOnce() {
        SurroundedKing x = Checks.boardOf("", true, "---h---", "---g---", "-hg-gh-", "-------", "---h---", "-----k-",
                "-------");
        checks.same("three guards", x.move(31, 17) + " " + x.count('g') + " " + x.count('h'), "3 0 4");
        SurroundedKing y = Checks.boardOf("", false, "---g---", "---h---", "-gh-hg-", "-------", "---g---", "-----k-",
                "h------");
        checks.same("three hunters", y.move(31, 17) + " " + y.count('h') + " " + y.count('g'), "3 1 4");
    }

    /** Who comes from next to the fourth one cannot come over him; all others are taken. */
    private static void fourCannotBeTakenAtOnce() {
        SurroundedKing x = Checks.boardOf("", true, "---h---", "---g---", "-hg-gh-", "---h---", "---g---", "---h-k-",
                "-------");
        checks.same("a guard behind the mover stays", x.move(24, 17) + " " + x.at(31), "3 g");
    }

    private static void whoGoesBetweenTwoIsNotTaken() {
        SurroundedKing guard = Checks.boardOf("", false, "-----", "h-h--", "-g---", "-----", "--k--");
        checks.same("a guard", guard.move(11, 6) + " " + guard.at(6) + " " + guard.isTurn(), "0 g true");
        checks.same("nor by a move elsewhere", guard.move(7, 2) + " " + guard.at(6), "0 g");
        SurroundedKing hunter = Checks.boardOf("", true, "-----", "g-g--", "-h---", "-----", "--k--");
        checks.same("a hunter", hunter.move(11, 6) + " " + hunter.at(6), "0 h");
        SurroundedKing king = Checks.boardOf("", false, "-----", "h-h--", "-k---", "-----", "-----");
        checks.same("the king", king.move(11, 6) + " " + king.king() + " " + king.winner(), "0 6 -");
        checks.same("as one of them comes again", king.move(7, 2) + " " + king.move(6, 11) + " " + king.move(2, 7),
                "0 0 0");
        SurroundedKing throne = Checks.boardOf("t", false, "-----", "g----", "h----", "-----", "k---h");
        checks.same("between a hunter and the throne", throne.move(5, 6) + " " + throne.move(10, 5) + " "
                + throne.move(6, 11), "0 0 0");
    }

    private static void theEmptyThroneIsHostileToAll() {
        SurroundedKing guard = Checks.boardOf("t", true, "h----", "-----", "-g---", "-----", "----k");
        guard.put(5, 'h');
        checks.same("a guard", guard.move(5, 10) + " " + guard.at(11), "1 -");
        SurroundedKing hunter = Checks.boardOf("t", false, "h----", "g----", "-h---", "-----", "----k");
        checks.same("a hunter", hunter.move(5, 10) + " " + hunter.at(11), "1 -");
        SurroundedKing king = Checks.boardOf("t", true, "-----", "h----", "-k---", "-----", "-----");
        checks.same("the king", king.move(5, 10) + " " + king.king() + " " + king.winner(), "1 -1 h");
        SurroundedKing byKing = Checks.boardOf("t", false, "h----", "k----", "-h---", "-----", "-----");
        checks.same("a hunter, by the king", byKing.move(5, 10) + " " + byKing.at(11), "1 -");
    }

    private static void aThroneWithSomebodyIsNot() {
        SurroundedKing king = Checks.boardOf("t", true, "h----", "h----", "-gk--", "-----", "-----");
        checks.same("to a guard, with the king", king.move(5, 10) + " " + king.at(11), "0 g");
        SurroundedKing guard = Checks.boardOf("t", true, "h----", "h----", "-gg--", "-----", "----k");
        checks.same("to a guard, with a guard", guard.move(5, 10) + " " + guard.at(11), "0 g");
        SurroundedKing hunter = Checks.boardOf("t", false, "h----", "g----", "-hh--", "-----", "----k");
        checks.same("to a hunter, with a hunter", hunter.move(5, 10) + " " + hunter.at(11), "0 h");
        SurroundedKing unarmed = Checks.boardOf("tw", false, "h----", "g----", "-hk--", "-----", "-----");
        checks.same("to a hunter, with a king without arms", unarmed.move(5, 10) + " " + unarmed.at(11), "0 h");
        SurroundedKing off = Checks.boardOf("cpf", true, "h----", "h----", "-g---", "-----", "----k");
        checks.same("nor empty without t", off.move(5, 10) + " " + off.at(11), "0 g");
    }

    private static void emptyCornersAreHostileToAll() {
        int[][] corners = {{0, 1, 2, 7}, {4, 3, 2, 7}, {20, 21, 22, 17}, {24, 23, 22, 17}, {0, 5, 10, 11},
            {20, 15, 10, 11}, {4, 9, 14, 13}, {24, 19, 14, 13}};
        for (int[] way : corners) {
            for (String sides : new String[] {"gh", "hg", "kh", "hk"}) {
                SurroundedKing x = new SurroundedKing();
                x.setRules(16);
                if (sides.indexOf('k') < 0) {
                    x.put(way[1] < 9 && way[1] != 5 ? 18 : 6, 'k');
                }
                x.put(way[1], sides.charAt(0));
                x.put(way[3], sides.charAt(1));
                x.put(way[0] < 10 ? (way[0] == 0 ? 24 : 20) : (way[0] == 20 ? 4 : 0), 'h');
                x.begin(sides.charAt(1) == 'h');
                checks.same(sides.charAt(0) + " by the corner " + way[0], x.move(way[3], way[2]) + "" + x.at(way[1]),
                        "1-");
                x.undo();
                x.rule('c', false);
                checks.same(sides.charAt(0) + " without c", x.move(way[3], way[2]) + "" + x.at(way[1]),
                        "0" + sides.charAt(0));
            }
        }
    }

    private static void aCornerWithSomebodyIsNot() {
        SurroundedKing guard = Checks.boardOf("c", true, "gg---", "--h--", "--k--", "-----", "-----");
        checks.same("to a guard, with a guard", guard.move(7, 2) + " " + guard.at(1), "0 g");
        SurroundedKing king = Checks.boardOf("c", true, "kg---", "--h--", "-----", "-----", "-----");
        checks.same("to a guard, with the king", king.move(7, 2) + " " + king.at(1), "0 g");
        SurroundedKing hunter = Checks.boardOf("c", false, "hh---", "--g--", "--k--", "-----", "-----");
        checks.same("to a hunter, with a hunter", hunter.move(7, 2) + " " + hunter.at(1), "0 h");
        SurroundedKing unarmed = Checks.boardOf("cw", false, "kh---", "--g--", "-----", "-----", "----h");
        checks.same("to a hunter, with a king without arms", unarmed.move(7, 2) + " " + unarmed.at(1), "0 h");
    }

    private static void aKingWithoutArmsTakesNobody() {
        SurroundedKing guard = Checks.boardOf("w", false, "-----", "k-hg-", "-----", "-----", "h----");
        checks.same("by a guard", guard.move(5, 6) + " " + guard.at(7), "0 h");
        SurroundedKing throne = Checks.boardOf("wt", false, "-----", "k----", "-h---", "-----", "----h");
        checks.same("by the throne", throne.move(5, 10) + " " + throne.at(11), "0 h");
        SurroundedKing corner = Checks.boardOf("wc", false, "-h---", "--k--", "-----", "-----", "----h");
        checks.same("by a corner", corner.move(7, 2) + " " + corner.at(1), "0 h");
        SurroundedKing armed = Checks.boardOf("tc", false, "-h---", "--k--", "-----", "-----", "----h");
        checks.same("with arms", armed.move(7, 2) + " " + armed.at(1), "1 -");
    }

    private static void aKingWithoutArmsDoesNotHelp() {
        SurroundedKing w = Checks.boardOf("w", false, "-----", "g-hk-", "-----", "-----", "h----");
        checks.same("a guard and he", w.move(5, 6) + " " + w.at(7), "0 h");
        SurroundedKing armed = Checks.boardOf("", false, "-----", "g-hk-", "-----", "-----", "h----");
        checks.same("with arms", armed.move(5, 6) + " " + armed.at(7), "1 -");
        SurroundedKing guards = Checks.boardOf("w", false, "-----", "g-hg-", "----k", "-----", "h----");
        checks.same("guards have arms all the same", guards.move(5, 6) + " " + guards.at(7), "1 -");
    }

    private static void twoAtOnceAndTheKingAmongThem() {
        SurroundedKing x = Checks.boardOf("", true, "--h--", "--g--", "h----", "--k--", "--h--");
        checks.same("two", x.move(10, 12) + " " + Checks.menOf(x), "2 --h--" + "-----" + "--h--" + "-----" + "--h--");
        checks.same("hunters win", x.winner() + " " + x.king() + " " + x.kept('h') + " " + x.worth(), "h -1 1 -1000");
        checks.same("taken back", x.undo() + " " + Checks.menOf(x) + " " + x.winner(),
                "0 --h--" + "--g--" + "h----" + "--k--" + "--h-- -");
        SurroundedKing three = Checks.boardOf("", true, "---h---", "---g---", "-hk-gh-", "-------", "---h---",
                "-------", "-------");
        checks.same("three", three.move(31, 17) + " " + three.king() + " " + three.count('g'), "3 -1 0");
        SurroundedKing only = Checks.boardOf("", true, "--h--", "--g--", "h----", "--k--", "-----");
        checks.same("one of them alone", only.move(10, 12) + " " + only.king() + " " + only.winner(), "1 17 -");
    }

    private static void theKingByFourAndAGuardAtOnce() {
        SurroundedKing x = Checks.boardOf("f", true, "-------", "---h---", "--hkh--", "h------", "---g---", "---h---",
                "-------");
        checks.same("two", x.move(21, 24) + " " + x.king() + " " + x.count('g') + " " + x.winner(), "2 -1 0 h");
        SurroundedKing guard = Checks.boardOf("f", true, "-------", "---h---", "--hk---", "h------", "---g---",
                "---h---", "-------");
        checks.same("the guard alone", guard.move(21, 24) + " " + guard.king() + " " + guard.count('g'), "1 17 0");
    }

    private static String besideOf(int size, int place) {
        StringBuilder beside = new StringBuilder();
        for (int[] way : WAYS) {
            int row = place / size + way[0];
            int column = place % size + way[1];
            if (row >= 0 && row < size && column >= 0 && column < size) {
                beside.append((char) (row * size + column));
            }
        }
        return beside.toString();
    }

    /** All places next to the king have hunters, the last one as he comes. */
    private static void theKingIsTakenByFourButAtTheEdge() {
        for (int size : new int[] {5, 7}) {
            for (int king = 0; king < size * size; king++) {
                String beside = besideOf(size, king);
                for (int last = 0; last < beside.length(); last++) {
                    surroundKing(size, king, beside, beside.charAt(last));
                }
            }
        }
    }

    private static void surroundKing(int size, int king, String beside, int last) {
        for (char from : besideOf(size, last).toCharArray()) {
            if (from == king) {
                continue;
            }
            SurroundedKing x = new SurroundedKing();
            x.board(size);
            x.setRules(4 + 8 + 16);
            if (king != size * size / 2) {
                x.put(king, 'k');
            }
            for (char place : beside.toCharArray()) {
                x.put(place, place == last ? '-' : 'h');
            }
            x.put(from, 'h');
            boolean isTaken = beside.length() == 4;
            checks.same("the king at " + king + " of " + size + ", the last one to " + last,
                    x.move(from, last) + " " + x.king(), isTaken ? "1 -1" : "0 " + king);
        }
    }

    private static void theKingIsTakenByThreeAndTheEmptyThrone() {
        int[][] ways = {{7, 2, 6, 8, 3}, {11, 10, 6, 16, 15}, {13, 14, 8, 18, 19}, {17, 22, 16, 18, 23}};
        for (int[] way : ways) {
            for (int rules : new int[] {4 + 8, 4, 4 + 16}) {
                SurroundedKing x = new SurroundedKing();
                x.put(way[0], 'k');
                x.setRules(rules);
                x.put(way[4], 'h');
                x.put(way[2], 'h');
                x.put(way[3], 'h');
                checks.same("the king at " + way[0] + " by " + rules, x.move(way[4], way[1]) + " " + x.king(),
                        rules == 12 ? "1 -1" : "0 " + way[0]);
            }
        }
    }

    private static void threeAndAThroneWithSomebodyDoNot() {
        SurroundedKing guard = Checks.boardOf("ft", true, "---h-", "-hkh-", "--g--", "-----", "-----");
        checks.same("with a guard", guard.move(3, 2) + " " + guard.king(), "0 7");
        SurroundedKing hunter = Checks.boardOf("f", true, "---h-", "-hkh-", "--h--", "-----", "-----");
        checks.same("with a hunter, also without t", hunter.move(3, 2) + " " + hunter.king(), "1 -1");
        SurroundedKing on = Checks.boardOf("ft", true, "-----", "-h---", "-hkh-", "--h--", "-----");
        checks.same("the king on it, by four hunters", on.move(6, 7) + " " + on.king(), "1 -1");
        SurroundedKing three = Checks.boardOf("ft", true, "-----", "-h---", "-hkh-", "-----", "-----");
        checks.same("the king on it, by three", three.move(6, 7) + " " + three.king(), "0 12");
    }

    private static void theKingIsTakenByFourBehindAMoveNextToHim() {
        SurroundedKing x = Checks.boardOf("f", true, "-----", "--h--", "-hkh-", "--h--", "g---h");
        checks.same("four as a game begins", x.winner() + " " + x.king(), "- 12");
        checks.same("not behind a move of another one", x.move(24, 23) + " " + x.king() + " " + x.winner(), "0 12 -");
        checks.same("nor behind one of guards", x.move(20, 15) + " " + x.king() + " " + x.winner(), "0 12 -");
        checks.same("nor as one goes", x.move(7, 2) + " " + x.move(15, 20) + " " + x.king(), "0 0 12");
        checks.same("but as he comes again", x.move(2, 7) + " " + x.king() + " " + x.winner(), "1 -1 h");
        SurroundedKing aslant = Checks.boardOf("f", true, "-----", "h-h--", "-hkh-", "--h--", "g----");
        checks.same("not behind a move aslant of him", aslant.move(5, 6) + " " + aslant.king(), "0 12");
    }

    private static void aKingWhoGoesBetweenFourIsNotTaken() {
        SurroundedKing x = Checks.boardOf("ft", false, "--h--", "-h-h-", "--k--", "-----", "h----");
        checks.same("off the throne", x.move(12, 7) + " " + x.king() + " " + x.winner(), "0 7 -");
        checks.same("nor behind a move elsewhere", x.move(20, 21) + " " + x.king(), "0 7");
        SurroundedKing guard = Checks.boardOf("ft", false, "--h--", "-hkh-", "--g--", "-----", "h----");
        checks.same("nor as a guard leaves the throne", guard.move(12, 17) + " " + guard.king(), "0 7");
        checks.same("but behind the next move of one of them", guard.move(20, 15) + " " + guard.move(17, 22) + " "
                + guard.move(6, 5) + " " + guard.move(22, 17) + " " + guard.move(5, 6) + " " + guard.king(),
                "0 0 0 0 1 -1");
    }

    private static void withFTheKingIsNotTakenByTwo() {
        SurroundedKing row = Checks.boardOf("f", true, "-----", "---h-", "-hk--", "-----", "-----");
        checks.same("hunters", row.move(8, 13) + " " + row.king(), "0 12");
        SurroundedKing throne = Checks.boardOf("ft", true, "-----", "h----", "-k---", "-----", "-----");
        checks.same("a hunter and the throne", throne.move(5, 10) + " " + throne.king(), "0 11");
        SurroundedKing corner = Checks.boardOf("fc", true, "-k---", "--h--", "-----", "-----", "-----");
        checks.same("a hunter and a corner", corner.move(7, 2) + " " + corner.king(), "0 1");
        SurroundedKing beside = Checks.boardOf("f", true, "-----", "---h-", "-hg-h", "-----", "--k--");
        checks.same("guards are, with f too", beside.move(8, 13) + " " + beside.at(12), "1 -");
    }

    // ---- isHostile: "whether a place is hostile to a man, were that one next to it, as for taking between two"

    private static String hostileTo(SurroundedKing x, int place) {
        StringBuilder men = new StringBuilder();
        for (char man : "hgk".toCharArray()) {
            men.append(x.isHostile(place, man) ? String.valueOf(man) : "");
        }
        return men.toString();
    }

    /** The place is looked at with who is there now; no man need be next to it, and nobody is moved in thought. */
    private static void isHostileAsTheBoardStands() {
        SurroundedKing x = Checks.boardOf("t", true, "h---g", "-----", "--k--", "-----", "-----");
        checks.same("the throne with the king, to the king too", hostileTo(x, 12), "h");
        x.rule('w', true);
        checks.same("with a king without arms", hostileTo(x, 12), "");
        x.put(24, 'k');
        checks.same("the empty throne", hostileTo(x, 12), "hgk");
        x.put(12, 'g');
        checks.same("the throne with a guard", hostileTo(x, 12), "h");
        x.put(12, 'h');
        checks.same("the throne with a hunter", hostileTo(x, 12), "gk");
        x.setRules(16);
        checks.same("corners with a hunter, a guard and the king, and an empty one", hostileTo(x, 0) + " "
                + hostileTo(x, 4) + " " + hostileTo(x, 24) + " " + hostileTo(x, 20), "gk h h hgk");
        checks.same("where nobody could be next to it", hostileTo(new SurroundedKing(), 0), "");
        x.begin(false);
        checks.same("in either turn", hostileTo(x, 0) + " " + hostileTo(x, 4), "gk h");
    }

    /** With 'f' the king is asked for as if he were taken by two; and it is so as a game is over, without a king. */
    private static void isHostileAsForTakingBetweenTwo() {
        SurroundedKing x = Checks.boardOf("ftc", true, "-----", "h----", "-k---", "-----", "-----");
        checks.same("a hunter, the throne and a corner, with f", hostileTo(x, 5) + " " + hostileTo(x, 12) + " "
                + hostileTo(x, 0), "gk hgk hgk");
        x.rule('f', false);
        checks.same("without f", hostileTo(x, 5) + " " + hostileTo(x, 12) + " " + hostileTo(x, 0), "gk hgk hgk");
        checks.same("the king is taken", x.move(5, 10) + " " + x.winner(), "1 h");
        checks.same("behind that", hostileTo(x, 10) + " " + hostileTo(x, 11) + " " + hostileTo(x, 12), "gk  hgk");
    }
}
