import java.math.BigInteger;

/** The boundary cases that "Terms" names of gaps, finds and families, of the checksum, isSound and 512 calls. */
public final class BoundGapTests {
    private static final String RULES = "ewftcpln";
    private static final String[] LINES_OF_3 = {"012 345 678", "036 147 258"};
    private static final int[] SIZES = {3, 5, 7};
    private static final Checks checks = new Checks();

    public static void main(String[] args) {
        nothingIsKnownAtFirst();
        allIsKnown();
        aTieBindsIfItsRuleIsAsTold();
        aTieThatIsThereIsAnotherOne();
        tiesAgainstEachOther();
        eightTies();
        tiesWithWhatIsKnown();
        untieLeavesWhatIsKnown();
        agreeingOnesRise();
        whatIsKnownIsNotTheRuleset();
        aFindIsAllBrokenAtFirst();
        aFindOfWhichNoneIsBroken();
        aFindOfEachBoard();
        eachSymmetryOfAFind();
        placesThatAreTheirOwnImage();
        bothBrokenStayBroken();
        aPlaceAndItsImageDiffer();
        aPlaceAndItsImageAreLike();
        theImageIsOfTheFindAsItWas();
        whatWasToldAndBrokenAgainIsNotKnown();
        tenRecords();
        yearsFrom0To2000();
        noParentOfTheLowestYear();
        likeYearsAreNotLower();
        likeNumbersOfUnlikeRules();
        likeYearsAndLikeNumbers();
        fewerUnlikeRulesAheadOfLaterYears();
        aLikeRulesetOfALowerYear();
        unlikeFromNoneToAll();
        middleOfTheSame();
        meanOfNoneAndOfAll();
        theChecksumOfASmallBoardDoesNotWrap();
        theChecksumWrapsAround();
        theChecksumTellsEachOfItsParts();
        isSoundInEachState();
        fiveHundredAndTwelveCalls();
        checks.end();
    }

    // ---- gaps

    private static void nothingIsKnownAtFirst() {
        SurroundedKing x = new SurroundedKing();
        checks.same("all agree", x.countAgreeing() + " " + x.agreeing(0) + " " + x.agreeing(255), "256 0 255");
        for (char rule : RULES.toCharArray()) {
            checks.same("of " + rule, x.know(rule, '?'), '?');
        }
        checks.same("no ties", x.untie(), 0);
    }

    private static void allIsKnown() {
        SurroundedKing x = new SurroundedKing();
        for (int i = 0; i < 8; i++) {
            x.know(RULES.charAt(i), i % 3 == 0 ? '1' : '0');
            checks.same("behind " + (i + 1) + " rules", x.countAgreeing(), 128 >> i);
        }
        checks.same("the one that agrees", x.agreeing(0), 1 + 8 + 64);
        x.know('e', '0');
        checks.same("known otherwise", x.countAgreeing() + " " + x.agreeing(0), "1 72");
        x.know('n', '?');
        checks.same("not known any more", x.countAgreeing() + " " + x.agreeing(1), "2 200");
    }

    private static void aTieBindsIfItsRuleIsAsTold() {
        for (int kind = 0; kind < 4; kind++) {
            boolean isOn = kind % 2 == 0;
            boolean isOther = kind < 2;
            SurroundedKing x = new SurroundedKing();
            x.tie('e', isOn, 'w', isOther);
            StringBuilder first = new StringBuilder();
            StringBuilder due = new StringBuilder();
            for (int rules = 0; rules < 4; rules++) {
                boolean isBound = (rules % 2 == 1) == isOn;
                due.append(isBound && (rules >= 2) != isOther ? "" : rules + " ");
            }
            for (int index = 0; index < 3; index++) {
                first.append(x.agreeing(index)).append(' ');
            }
            checks.same("e " + isOn + ", w " + isOther, first, due);
            checks.same("how many", x.countAgreeing(), 192);
        }
    }

    private static void aTieThatIsThereIsAnotherOne() {
        SurroundedKing x = new SurroundedKing();
        for (int ties = 1; ties <= 8; ties++) {
            checks.same("the same again", x.tie('e', true, 'w', true) + " " + x.countAgreeing(), ties + " 192");
        }
        checks.thrown(x, "a ninth one", IllegalStateException.class, () -> x.tie('e', true, 'w', true));
        checks.same("all away", x.untie() + " " + x.countAgreeing(), "8 256");
    }

    private static void tiesAgainstEachOther() {
        SurroundedKing x = new SurroundedKing();
        x.tie('e', true, 'w', true);
        x.tie('e', true, 'w', false);
        checks.same("e cannot be on", x.countAgreeing() + " " + x.agreeing(0) + " " + x.agreeing(127), "128 0 254");
        x.tie('e', false, 'w', true);
        x.tie('e', false, 'w', false);
        checks.same("none agrees", x.countAgreeing(), 0);
    }

    private static void eightTies() {
        SurroundedKing x = new SurroundedKing();
        for (int i = 0; i < 8; i++) {
            checks.same("tie " + i, x.tie(RULES.charAt(i), true, RULES.charAt((i + 1) % 8), true), i + 1);
        }
        checks.same("all of them bind", x.countAgreeing() + " " + x.agreeing(0) + " " + x.agreeing(1), "2 0 255");
        SurroundedKing last = new SurroundedKing();
        for (int i = 0; i < 7; i++) {
            last.tie('e', true, 'w', true);
        }
        checks.same("the eighth binds", last.tie('p', false, 'l', false) + " " + last.countAgreeing(), "8 144");
    }

    private static void tiesWithWhatIsKnown() {
        SurroundedKing x = new SurroundedKing();
        x.tie('e', true, 'n', false);
        x.know('e', '1');
        checks.same("bound", x.countAgreeing() + " " + x.agreeing(0) + " " + x.agreeing(63), "64 1 127");
        x.know('n', '1');
        checks.same("against the tie", x.countAgreeing(), 0);
        x.know('e', '0');
        checks.same("not bound", x.countAgreeing() + " " + x.agreeing(0), "64 128");
    }

    private static void untieLeavesWhatIsKnown() {
        SurroundedKing x = new SurroundedKing();
        x.know('e', '1');
        x.tie('e', true, 'w', true);
        checks.same("with the tie", x.countAgreeing(), 64);
        checks.same("without it", x.untie() + " " + x.countAgreeing() + " " + x.know('e', '1'), "1 128 1");
    }

    private static void agreeingOnesRise() {
        SurroundedKing x = new SurroundedKing();
        x.tie('n', true, 'e', true);
        x.tie('p', false, 'l', true);
        x.know('t', '1');
        int count = x.countAgreeing();
        int last = -1;
        for (int index = 0; index < count; index++) {
            int rules = x.agreeing(index);
            boolean agrees = (rules < 128 || rules % 2 == 1) && ((rules & 32) != 0 || (rules & 64) != 0)
                    && (rules & 8) != 0;
            checks.same("rises and agrees at " + index, rules > last && agrees, true);
            last = rules;
        }
        checks.same("how many", count + " " + x.agreeing(0) + " " + last, "72 40 255");
    }

    private static void whatIsKnownIsNotTheRuleset() {
        SurroundedKing x = new SurroundedKing();
        x.put(0, 'h');
        x.move(0, 1);
        x.know('e', '1');
        x.tie('w', false, 'f', true);
        x.record(255, 5);
        checks.same("the ruleset stays, and the game", x.rules() + " " + x.countMade(), "0 1");
        x.setRules(0);
        checks.same("what is known stays", x.know('e', '1') + " " + x.countAgreeing(), "1 96");
    }

    // ---- finds

    private static SurroundedKing findOf(int size, String marks) {
        SurroundedKing x = new SurroundedKing();
        x.board(size);
        for (int place = 0; place < marks.length(); place++) {
            x.find(place, marks.charAt(place));
        }
        return x;
    }

    private static String marksOf(SurroundedKing x, int size) {
        StringBuilder marks = new StringBuilder();
        for (int place = 0; place < size * size; place++) {
            marks.append(x.found(place));
        }
        return marks.toString();
    }

    private static int imageOf(int size, char symmetry, int place) {
        int row = place / size;
        int column = place % size;
        return switch (symmetry) {
            case 'h' -> row * size + (size - 1 - column);
            case 'v' -> (size - 1 - row) * size + column;
            case 'd' -> column * size + row;
            default -> size * size - 1 - place;
        };
    }

    private static void aFindIsAllBrokenAtFirst() {
        for (int size : SIZES) {
            for (char symmetry : "hvdr".toCharArray()) {
                SurroundedKing x = findOf(size, "");
                checks.same("completed by " + symmetry, x.complete(symmetry), size * size);
                checks.same("it stays", marksOf(x, size), "?".repeat(size * size));
            }
        }
    }

    private static void aFindOfWhichNoneIsBroken() {
        for (char symmetry : "hvdr".toCharArray()) {
            SurroundedKing x = findOf(3, "101" + "010" + "101");
            checks.same("completed by " + symmetry, x.complete(symmetry) + marksOf(x, 3), "0101010101");
        }
        SurroundedKing x = findOf(3, "100" + "000" + "001");
        checks.same("by d and r", x.complete('d') + " " + x.complete('r'), "0 0");
        checks.thrown(x, "by h", UnsupportedOperationException.class, () -> x.complete('h'));
        checks.thrown(x, "by v", UnsupportedOperationException.class, () -> x.complete('v'));
    }

    private static void aFindOfEachBoard() {
        SurroundedKing x = new SurroundedKing();
        for (int size : new int[] {7, 3, 5, 5}) {
            x.board(size);
            checks.same("all broken of " + size, marksOf(x, size), "?".repeat(size * size));
            x.find(0, '1');
            x.find(size * size - 1, '1');
            checks.same("as many places", x.complete('r') + " " + x.complete('h') + " " + x.complete('v'),
                    (size * size - 2) + " " + (size * size - 4) + " " + (size * size - 4));
        }
        x.find(1, '0');
        x.rule('e', true);
        x.put(0, 'h');
        x.begin(true);
        x.move(0, 1);
        checks.same("only a board takes it away", x.found(1), '0');
    }

    /** Each place alone is told, and completed to its image, and nowhere else. */
    private static void eachSymmetryOfAFind() {
        for (int size : SIZES) {
            for (char symmetry : "hvdr".toCharArray()) {
                for (int place = 0; place < size * size; place++) {
                    SurroundedKing x = findOf(size, "");
                    char mark = place % 2 == 0 ? '0' : '1';
                    x.find(place, mark);
                    int image = imageOf(size, symmetry, place);
                    StringBuilder due = new StringBuilder("?".repeat(size * size));
                    due.setCharAt(place, mark);
                    due.setCharAt(image, mark);
                    checks.same("broken by " + symmetry, x.complete(symmetry), size * size - (image == place ? 1 : 2));
                    checks.same("of the place " + place, marksOf(x, size), due);
                }
            }
        }
    }

    private static void placesThatAreTheirOwnImage() {
        SurroundedKing middle = findOf(3, "????1????");
        for (char symmetry : "hvdr".toCharArray()) {
            checks.same("the middle by " + symmetry, middle.complete(symmetry) + marksOf(middle, 3), "8????1????");
        }
        SurroundedKing broken = findOf(3, "1111?1111");
        for (char symmetry : "hvdr".toCharArray()) {
            checks.same("a broken middle by " + symmetry, broken.complete(symmetry) + "" + broken.found(4), "1?");
        }
        for (int line = 0; line < 2; line++) {
            char symmetry = line == 0 ? 'v' : 'h';
            String own = LINES_OF_3[line].substring(4, 7);
            SurroundedKing x = findOf(3, "");
            for (char place : own.toCharArray()) {
                x.find(place - '0', '0');
            }
            checks.same("a line by " + symmetry, x.complete(symmetry), 6);
        }
    }

    private static void bothBrokenStayBroken() {
        SurroundedKing x = findOf(3, "1??" + "???" + "??0");
        checks.same("by d none is completed", x.complete('d') + marksOf(x, 3), "71???????0");
        x.find(1, '1');
        checks.same("one pair is", x.complete('d') + marksOf(x, 3), "511?1????0");
    }

    private static void aPlaceAndItsImageDiffer() {
        for (int size : SIZES) {
            for (char symmetry : "hvdr".toCharArray()) {
                for (int place = 0; place < size * size; place++) {
                    int image = imageOf(size, symmetry, place);
                    if (image != place) {
                        SurroundedKing x = findOf(size, "");
                        x.find(place, '1');
                        x.find(image, '0');
                        x.find(image == 0 || place == 0 ? 1 : 0, '1');
                        String before = marksOf(x, size);
                        checks.thrown(x, size + " " + symmetry + " " + place, UnsupportedOperationException.class,
                                () -> x.complete(symmetry));
                        checks.same("none is completed", marksOf(x, size), before);
                    }
                }
            }
        }
    }

    private static void aPlaceAndItsImageAreLike() {
        for (char mark : "10".toCharArray()) {
            for (char symmetry : "hvdr".toCharArray()) {
                SurroundedKing x = findOf(5, "");
                x.find(1, mark);
                x.find(imageOf(5, symmetry, 1), mark);
                checks.same("by " + symmetry, x.complete(symmetry), 23);
            }
        }
    }

    /** A place is completed from what was told, not from what is completed in the same call. */
    private static void theImageIsOfTheFindAsItWas() {
        SurroundedKing x = findOf(3, "10?" + "???" + "???");
        checks.same("by h", x.complete('h') + marksOf(x, 3), "6101??????");
        checks.same("then by v", x.complete('v') + marksOf(x, 3), "3101???101");
        checks.same("then by d", x.complete('d') + marksOf(x, 3), "11010?0101");
        checks.same("then by r", x.complete('r') + marksOf(x, 3), "11010?0101");
    }

    /** Neither a mark that was taken away nor one of an earlier board comes out again. */
    private static void whatWasToldAndBrokenAgainIsNotKnown() {
        SurroundedKing x = findOf(3, "1");
        x.find(0, '?');
        x.find(2, '0');
        checks.same("broken again", x.complete('h') + marksOf(x, 3), "70?0??????");
        SurroundedKing y = findOf(3, "111111111");
        y.board(3);
        y.find(0, '0');
        checks.same("of a new board", y.complete('d') + " " + y.complete('h') + " " + y.complete('r') + marksOf(y, 3),
                "8 7 50?0???0?0");
    }

    // ---- families

    private static SurroundedKing familyOf(int... rulesAndYears) {
        SurroundedKing x = new SurroundedKing();
        for (int i = 0; i + 1 < rulesAndYears.length; i += 2) {
            checks.same("record", x.record(rulesAndYears[i], rulesAndYears[i + 1]), i / 2);
        }
        return x;
    }

    private static void tenRecords() {
        SurroundedKing x = familyOf(0, 0, 1, 1, 3, 2, 7, 3, 15, 4, 31, 5, 63, 6, 127, 7, 255, 8, 254, 9);
        for (int record = 1; record < 10; record++) {
            checks.same("parent of " + record, x.parent(record), record - 1);
        }
        checks.same("the first and the last", x.parent(0) + " " + x.unlike(0, 9) + " " + x.middle(9, 0, 8), "-1 7 254");
        checks.same("the mean", x.meanOn(), (0 + 1 + 2 + 3 + 4 + 5 + 6 + 7 + 8 + 7) / 10.0);
        checks.thrown(x, "an eleventh", IllegalStateException.class, () -> x.record(0, 0));
    }

    private static void yearsFrom0To2000() {
        SurroundedKing x = familyOf(5, 0, 5, 2000, 5, 1999, 5, 1);
        checks.same("parents", x.parent(0) + " " + x.parent(1) + " " + x.parent(2) + " " + x.parent(3), "-1 2 3 0");
    }

    private static void noParentOfTheLowestYear() {
        SurroundedKing x = familyOf(255, 500, 255, 501, 0, 500);
        checks.same("parents", x.parent(0) + " " + x.parent(1) + " " + x.parent(2), "-1 0 -1");
        checks.same("one alone", familyOf(7, 1000).parent(0), -1);
    }

    private static void likeYearsAreNotLower() {
        SurroundedKing x = familyOf(7, 900, 7, 900, 255, 100);
        checks.same("parents", x.parent(0) + " " + x.parent(1) + " " + x.parent(2), "2 2 -1");
    }

    private static void likeNumbersOfUnlikeRules() {
        SurroundedKing x = familyOf(0, 900, 1, 100, 2, 300, 4, 200);
        checks.same("the later one", x.parent(0), 2);
        SurroundedKing last = familyOf(0, 900, 1, 100, 2, 300, 4, 301);
        checks.same("the latest", last.parent(0), 3);
        SurroundedKing first = familyOf(0, 900, 1, 302, 2, 300, 4, 301);
        checks.same("the first of them", first.parent(0), 1);
    }

    private static void likeYearsAndLikeNumbers() {
        SurroundedKing x = familyOf(4, 300, 1, 300, 0, 900, 2, 300);
        checks.same("the lower number", x.parent(2), 0);
        SurroundedKing y = familyOf(5, 300, 1, 300, 0, 900, 2, 300);
        checks.same("the lower number of the like ones", y.parent(2), 1);
    }

    private static void fewerUnlikeRulesAheadOfLaterYears() {
        SurroundedKing x = familyOf(0, 900, 3, 899, 128, 0, 7, 899);
        checks.same("one unlike rule of the year 0", x.parent(0), 2);
        SurroundedKing y = familyOf(255, 900, 0, 899);
        checks.same("all unlike", y.parent(0), 1);
    }

    private static void aLikeRulesetOfALowerYear() {
        SurroundedKing x = familyOf(9, 900, 9, 100, 8, 899);
        checks.same("the same ruleset", x.parent(0) + " " + x.parent(2), "1 1");
    }

    private static void unlikeFromNoneToAll() {
        SurroundedKing x = familyOf(0, 0, 1, 0, 3, 0, 7, 0, 15, 0, 31, 0, 63, 0, 127, 0, 255, 0);
        for (int one = 0; one < 9; one++) {
            for (int other = 0; other < 9; other++) {
                checks.same(one + " and " + other, x.unlike(one, other), Math.abs(one - other));
            }
        }
    }

    private static void middleOfTheSame() {
        SurroundedKing x = familyOf(0b11110000, 5, 0b11001100, 5, 0b10101010, 5);
        for (int one = 0; one < 3; one++) {
            for (int other = 0; other < 3; other++) {
                int ruleset = x.middle(one, one, one);
                checks.same("two of three", x.middle(one, one, other) + " " + x.middle(one, other, one) + " "
                        + x.middle(other, one, one), ruleset + " " + ruleset + " " + ruleset);
            }
        }
        checks.same("of three", x.middle(0, 1, 2) + " " + x.middle(2, 1, 0), 0b11101000 + " " + 0b11101000);
    }

    private static void meanOfNoneAndOfAll() {
        checks.same("none on", familyOf(0, 0, 0, 5).meanOn(), 0.0);
        checks.same("all on", familyOf(255, 0, 255, 5).meanOn(), 8.0);
        checks.same("a third", familyOf(1, 0, 0, 0, 0, 0).meanOn(), 1.0 / 3.0);
        checks.same("a seventh", familyOf(255, 0, 3, 0, 0, 0, 0, 0, 0, 0, 0, 0, 0, 0).meanOn(), 10.0 / 7.0);
    }

    // ---- the sum, the check, and calls

    private static BigInteger sumOf(String men, int rules, int made, int z) {
        BigInteger factor = BigInteger.valueOf(31);
        BigInteger sum = BigInteger.valueOf(7);
        for (char man : men.toCharArray()) {
            sum = sum.multiply(factor).add(BigInteger.valueOf(man));
        }
        for (int number : new int[] {rules, made, z}) {
            sum = sum.multiply(factor).add(BigInteger.valueOf(number));
        }
        return sum;
    }

    private static void theChecksumOfASmallBoardDoesNotWrap() {
        SurroundedKing x = new SurroundedKing();
        x.board(3);
        BigInteger sum = sumOf("----k----", 0, 0, 1);
        checks.same("it is a long", sum.bitLength() < 64, true);
        checks.same("the sum", x.checksum(), sum);
    }

    private static void theChecksumWrapsAround() {
        for (int size : new int[] {5, 7}) {
            SurroundedKing x = new SurroundedKing();
            x.board(size);
            for (int place = 0; place < size * size; place++) {
                if (place != size * size / 2 && place != 1) {
                    x.put(place, 'h');
                }
            }
            x.setRules(255 - 64 - 32);
            x.seed(2147483646);
            x.move(0, 1);
            BigInteger sum = sumOf(Checks.menOf(x), 159, 1, 2147483646);
            checks.same("it is no long", sum.bitLength() > 64, true);
            checks.same("the sum of " + size, x.checksum(), sum.longValue());
        }
    }

    private static void theChecksumTellsEachOfItsParts() {
        SurroundedKing x = Checks.boardOf("", true, "h--", "-k-", "--g");
        long first = x.checksum();
        checks.same("at first", first, sumOf("h---k---g", 0, 0, 1).longValue());
        x.seed(2);
        checks.same("z", x.checksum() - first, 1L);
        x.rule('n', true);
        checks.same("rules", x.checksum() - first, 128L * 31 * 31 + 1);
        x.move(0, 1);
        checks.same("men and moves", x.checksum(), sumOf("-h--k---g", 128, 1, 2).longValue());
        x.undo();
        checks.same("taken back", x.checksum() - first, 128L * 31 * 31 + 1);
        x.begin(false);
        checks.same("not the turn", x.checksum() - first, 128L * 31 * 31 + 1);
        x.move(8, 7);
        x.begin(false);
        checks.same("of this game", x.checksum(), sumOf("h---k--g-", 128, 0, 2).longValue());
    }

    private static void isSoundInEachState() {
        SurroundedKing taken = Checks.boardOf("", true, "g----", "---h-", "-hk--", "-----", "-----");
        checks.same("many positions", taken.isSound(), true);
        taken.move(8, 13);
        checks.same("the king taken", taken.isSound(), true);
        taken.begin(true);
        checks.same("a game begun without him", taken.isSound(), true);
        SurroundedKing third = Checks.boardOf("fl", true, "---", "hk-", "g--");
        checks.same("few positions", third.isSound(), true);
        Checks.go(third, "3-0 4-1 0-3 1-4 3-0 4-1 0-3 1-4");
        checks.same("the third time", third.winner() + " " + third.isSound(), "h true");
        for (int size : SIZES) {
            SurroundedKing x = new SurroundedKing();
            x.board(size);
            checks.same("nobody hunts on a board of " + size, x.isSound(), true);
            String before = Checks.stateOf(x);
            x.isSound();
            checks.same("nothing changes", Checks.stateOf(x), before);
        }
    }

    /** A game takes two calls: it begins, and the king moves along the edge. */
    private static void fiveHundredAndTwelveCalls() {
        SurroundedKing x = new SurroundedKing();
        x.board(3);
        x.rule('e', true);
        x.put(0, 'h');
        x.put(5, 'k');
        for (int games = 0; games < 253; games++) {
            x.begin(false);
            x.move(games % 2 == 0 ? 5 : 8, games % 2 == 0 ? 8 : 5);
        }
        x.winner();
        checks.same("the 512th call", x.kept('g'), 253);
    }
}
