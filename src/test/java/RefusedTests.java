import java.util.NoSuchElementException;
import java.util.function.Supplier;

/**
 * Each "Throws .. if .." of the document: the last value that is allowed, the first that is not, the least and the
 * greatest int, the exception that is documented first where several apply, and that nothing changes.
 */
public final class RefusedTests {
    private static final Class<IndexOutOfBoundsException> NO_PLACE = IndexOutOfBoundsException.class;
    private static final Class<IllegalArgumentException> WRONG = IllegalArgumentException.class;
    private static final Class<IllegalStateException> STATE = IllegalStateException.class;
    private static final Class<UnsupportedOperationException> CANNOT = UnsupportedOperationException.class;
    private static final Class<NoSuchElementException> NONE = NoSuchElementException.class;
    private static final Class<ArithmeticException> SUM = ArithmeticException.class;
    private static final int LEAST = Integer.MIN_VALUE;
    private static final int MOST = Integer.MAX_VALUE;
    private static final String RULES = "ewftcpln";
    private static final Checks checks = new Checks();

    /** A call with a number, or with a sign, to be asked with many of them. */
    private interface IntCall {
        Object on(SurroundedKing x, int number);
    }

    private interface CharCall {
        Object on(SurroundedKing x, char sign);
    }

    public static void main(String[] args) {
        board();
        rule();
        setRules();
        put();
        putAtTheKing();
        at();
        count();
        isHostile();
        canMove();
        moveAt();
        move();
        moveOfAGameThatIsOver();
        undo();
        search();
        best();
        play();
        seed();
        countPositionsAndSolve();
        kept();
        balanceBits();
        know();
        tie();
        aNinthTie();
        agreeing();
        find();
        complete();
        found();
        record();
        anEleventhRecord();
        parent();
        unlike();
        middle();
        meanOn();
        checks.end();
    }

    /** A game that goes on behind two moves, with something told of everything that can be told. */
    private static SurroundedKing told() {
        SurroundedKing x = new SurroundedKing();
        x.setRules(24);
        x.put(1, 'k');
        x.put(24, 'h');
        x.begin(false);
        x.move(1, 0);
        x.board(5);
        x.put(0, 'h');
        x.put(24, 'h');
        x.put(6, 'g');
        Checks.go(x, "0-1 12-13");
        x.seed(77);
        x.know('w', '1');
        x.know('p', '0');
        x.tie('e', true, 'f', true);
        x.find(0, '1');
        x.find(24, '0');
        x.record(7, 900);
        x.record(3, 700);
        return x;
    }

    /** The same, over as the king got away. */
    private static SurroundedKing over() {
        SurroundedKing x = told();
        Checks.go(x, "24-23 13-3 23-24 3-4");
        return x;
    }

    private static SurroundedKing toldOn(int size) {
        SurroundedKing x = told();
        x.board(size);
        x.put(0, 'h');
        x.move(0, 1);
        return x;
    }

    private static void refusedNumbers(String call, Class<? extends Exception> due, Supplier<SurroundedKing> maker,
            IntCall action, int... numbers) {
        for (int number : numbers) {
            checks.refused(call + " of " + number, due, maker, x -> action.on(x, number));
        }
    }

    /** Each sign but the allowed ones is refused, also those of which only the low bits are like theirs. */
    private static void refusedSigns(String call, Supplier<SurroundedKing> maker, String allowed, CharCall action) {
        StringBuilder signs = new StringBuilder();
        for (char sign = 0; sign < 256; sign++) {
            signs.append(sign);
        }
        for (char sign : allowed.toCharArray()) {
            signs.append((char) (sign + 256)).append((char) (sign + 0x8000));
        }
        signs.append(Character.MAX_VALUE);
        for (char sign : signs.toString().toCharArray()) {
            if (allowed.indexOf(sign) < 0) {
                checks.refused(call + " of the sign " + (int) sign, WRONG, maker, x -> action.on(x, sign));
            }
        }
    }

    private static void board() {
        for (int size : new int[] {3, 5, 7}) {
            checks.allowed("board(" + size + ")", RefusedTests::told, x -> x.board(size), 5);
        }
        refusedNumbers("board", WRONG, RefusedTests::told, SurroundedKing::board, 2, 4, 6, 8, 1, 0, -1, -3, -5, -7, 9,
                LEAST, MOST);
    }

    private static void rule() {
        for (char rule : RULES.toCharArray()) {
            boolean isOn = "tc".indexOf(rule) >= 0;
            checks.allowed("rule(" + rule + ", true)", RefusedTests::told, x -> x.rule(rule, true), isOn);
            checks.allowed("rule(" + rule + ", false)", RefusedTests::told, x -> x.rule(rule, false), isOn);
        }
        refusedSigns("rule on", RefusedTests::told, RULES, (x, sign) -> x.rule(sign, true));
        refusedSigns("rule off", RefusedTests::told, RULES, (x, sign) -> x.rule(sign, false));
    }

    private static void setRules() {
        checks.allowed("setRules(0)", RefusedTests::told, x -> x.setRules(0) + " " + x.rules(), "24 0");
        checks.allowed("setRules(255)", RefusedTests::told, x -> x.setRules(255) + " " + x.rules(), "24 255");
        refusedNumbers("setRules", WRONG, RefusedTests::told, SurroundedKing::setRules, -1, 256, 280, LEAST, MOST);
    }

    private static void put() {
        for (int size : new int[] {3, 5, 7}) {
            int places = size * size;
            Supplier<SurroundedKing> maker = () -> toldOn(size);
            checks.allowed("put at the first place", maker, x -> x.put(0, 'g') + "" + x.at(0), "-g");
            checks.allowed("put at the last place", maker, x -> x.put(places - 1, 'g') + "" + x.at(places - 1), "-g");
            refusedNumbers("put", NO_PLACE, maker, (x, place) -> x.put(place, 'h'), -1, places, LEAST, MOST);
            refusedNumbers("put of nobody like that", NO_PLACE, maker, (x, place) -> x.put(place, 'x'), -1, places,
                    LEAST, MOST);
        }
        for (char man : "hgk-".toCharArray()) {
            checks.allowed("put of " + man, RefusedTests::told, x -> x.put(8, man) + "" + x.at(8), "-" + man);
        }
        refusedSigns("put", RefusedTests::told, "hgk-", (x, man) -> x.put(8, man));
    }

    private static void putAtTheKing() {
        for (char man : "hgk-".toCharArray()) {
            checks.refused("put at the king", CANNOT, RefusedTests::told, x -> x.put(13, man));
            checks.refused("put at the king as he got away", CANNOT, RefusedTests::over, x -> x.put(4, man));
            checks.allowed("put where the king was", RefusedTests::told, x -> x.put(12, man), '-');
            checks.allowed("put where the king is not any more", RefusedTests::told, x -> {
                x.put(18, 'k');
                return x.put(13, man);
            }, '-');
        }
        refusedSigns("put at the king", RefusedTests::told, "hgk-", (x, man) -> x.put(13, man));
    }

    private static void at() {
        for (int size : new int[] {3, 5, 7}) {
            int places = size * size;
            checks.allowed("at the first place", () -> toldOn(size), x -> x.at(0), '-');
            checks.allowed("at the last place", () -> toldOn(size), x -> x.at(places - 1), '-');
            refusedNumbers("at", NO_PLACE, () -> toldOn(size), SurroundedKing::at, -1, places, LEAST, MOST);
        }
    }

    private static void count() {
        checks.allowed("count(h)", RefusedTests::told, x -> x.count('h'), 2);
        checks.allowed("count(g)", RefusedTests::told, x -> x.count('g'), 1);
        refusedSigns("count", RefusedTests::told, "hg", SurroundedKing::count);
    }

    private static void isHostile() {
        for (int size : new int[] {3, 5, 7}) {
            int places = size * size;
            Supplier<SurroundedKing> maker = () -> toldOn(size);
            for (char man : "hgk".toCharArray()) {
                checks.allowed("isHostile of the first place", maker, x -> x.isHostile(0, man), true);
                checks.allowed("isHostile of the last place", maker, x -> x.isHostile(places - 1, man), true);
            }
            refusedNumbers("isHostile", NO_PLACE, maker, (x, place) -> x.isHostile(place, 'k'), -1, places, LEAST,
                    MOST);
            refusedNumbers("isHostile to nobody like that", NO_PLACE, maker, (x, place) -> x.isHostile(place, '-'),
                    -1, places, LEAST, MOST);
        }
        refusedSigns("isHostile", RefusedTests::told, "hgk", (x, man) -> x.isHostile(8, man));
    }

    private static void canMove() {
        for (int size : new int[] {3, 5, 7}) {
            int places = size * size;
            Supplier<SurroundedKing> maker = () -> toldOn(size);
            checks.allowed("canMove from the first place", maker, x -> x.canMove(0, 5), false);
            checks.allowed("canMove to the last place", maker, x -> x.canMove(places / 2, places - 1), false);
            checks.allowed("canMove from the last place to the first", maker, x -> x.canMove(places - 1, 0), false);
            refusedNumbers("canMove from", NO_PLACE, maker, (x, place) -> x.canMove(place, 0), -1, places, LEAST,
                    MOST);
            refusedNumbers("canMove to", NO_PLACE, maker, (x, place) -> x.canMove(places / 2, place), -1, places,
                    LEAST, MOST);
            refusedNumbers("canMove from and to", NO_PLACE, maker, (x, place) -> x.canMove(place, place), -1, places,
                    LEAST, MOST);
        }
        refusedNumbers("canMove of a game that is over", NO_PLACE, RefusedTests::over,
                (x, place) -> x.canMove(4, place), -1, 25, LEAST, MOST);
    }

    private static void moveAt() {
        checks.same("countMoves", told().countMoves(), 12);
        checks.allowed("the first move", RefusedTests::told, x -> x.moveAt(0), 100);
        checks.allowed("the last move", RefusedTests::told, x -> x.moveAt(11), 2423);
        refusedNumbers("moveAt", NONE, RefusedTests::told, SurroundedKing::moveAt, -1, 12, LEAST, MOST);
        refusedNumbers("moveAt of a game that is over", NONE, RefusedTests::over, SurroundedKing::moveAt, -1, 0, 1,
                LEAST, MOST);
    }

    private static void move() {
        for (int size : new int[] {3, 5, 7}) {
            int places = size * size;
            Supplier<SurroundedKing> maker = () -> toldOn(size);
            refusedNumbers("move from", NO_PLACE, maker, (x, place) -> x.move(place, 0), -1, places, LEAST, MOST);
            refusedNumbers("move to", NO_PLACE, maker, (x, place) -> x.move(places / 2, place), -1, places, LEAST,
                    MOST);
            refusedNumbers("move from and to", NO_PLACE, maker, (x, place) -> x.move(place, place), -1, places,
                    LEAST, MOST);
        }
        checks.allowed("move to the first place", RefusedTests::told, x -> x.move(1, 0), 0);
        checks.allowed("move from the last place", RefusedTests::told, x -> x.move(24, 4), 0);
        int[][] wrong = {{1, 1}, {1, 6}, {1, 7}, {1, 5}, {24, 25 - 24}, {6, 7}, {13, 12}, {10, 11}, {24, 0}};
        for (int[] way : wrong) {
            checks.refused("move(" + way[0] + ", " + way[1] + ")", CANNOT, RefusedTests::told,
                    x -> x.move(way[0], way[1]));
        }
    }

    private static void moveOfAGameThatIsOver() {
        checks.same("over", over().winner(), 'g');
        checks.refused("a move that could be made otherwise", STATE, RefusedTests::over, x -> x.move(24, 23));
        checks.refused("a move that could not", STATE, RefusedTests::over, x -> x.move(0, 0));
        refusedNumbers("move from no place", NO_PLACE, RefusedTests::over, (x, place) -> x.move(place, 0), -1, 25,
                LEAST, MOST);
        refusedNumbers("move to no place", NO_PLACE, RefusedTests::over, (x, place) -> x.move(24, place), -1, 25,
                LEAST, MOST);
        checks.allowed("behind undo it can be made", RefusedTests::over, x -> x.undo() + " " + x.move(3, 4), "5 0");
    }

    private static void undo() {
        checks.allowed("undo of two moves", RefusedTests::told, x -> x.undo() + " " + x.undo(), "1 0");
        checks.refused("undo as a game begins", NONE, () -> toldAndBegun(true), x -> x.undo());
        checks.refused("undo in the other turn", NONE, () -> toldAndBegun(false), x -> x.undo());
        checks.refused("undo of a new object", NONE, SurroundedKing::new, x -> x.undo());
        checks.refused("undo of all and one more", NONE, () -> {
            SurroundedKing x = told();
            x.undo();
            x.undo();
            return x;
        }, x -> x.undo());
    }

    private static SurroundedKing toldAndBegun(boolean isHunters) {
        SurroundedKing x = told();
        x.begin(isHunters);
        return x;
    }

    private static void search() {
        checks.allowed("search(1)", RefusedTests::told, x -> x.search(1), -1000);
        checks.allowed("search(2)", RefusedTests::told, x -> x.search(2), -1000);
        refusedNumbers("search", WRONG, RefusedTests::told, SurroundedKing::search, 0, 3, -1, LEAST, MOST);
        refusedNumbers("search of a game that is over", WRONG, RefusedTests::over, SurroundedKing::search, 0, 3, -1,
                LEAST, MOST);
    }

    private static void best() {
        checks.allowed("best(1)", RefusedTests::told, x -> x.best(1), 2414);
        checks.allowed("best(2)", RefusedTests::told, x -> x.best(2), 2414);
        refusedNumbers("best", WRONG, RefusedTests::told, SurroundedKing::best, 0, 3, -1, LEAST, MOST);
        refusedNumbers("best of a wrong depth first", WRONG, RefusedTests::over, SurroundedKing::best, 0, 3, LEAST,
                MOST);
        refusedNumbers("best of a game that is over", STATE, RefusedTests::over, SurroundedKing::best, 1, 2);
        refusedNumbers("best of a game that is over as it begins", STATE, SurroundedKing::new, SurroundedKing::best,
                1, 2);
    }

    private static void play() {
        checks.allowed("play(1)", RefusedTests::told, x -> x.play(1) + " " + x.countMade(), "1 3");
        checks.allowed("play(60)", RefusedTests::over, x -> x.play(60) + " " + x.countMade(), "0 6");
        refusedNumbers("play", WRONG, RefusedTests::told, SurroundedKing::play, 0, 61, -1, LEAST, MOST);
        refusedNumbers("play of a game that is over", WRONG, RefusedTests::over, SurroundedKing::play, 0, 61, LEAST,
                MOST);
    }

    private static void seed() {
        checks.allowed("seed(1)", RefusedTests::told, x -> x.seed(1) + " " + x.seed(5), "77 1");
        checks.allowed("seed(2147483646)", RefusedTests::told, x -> x.seed(2147483646) + " " + x.seed(5),
                "77 2147483646");
        refusedNumbers("seed", WRONG, RefusedTests::told, SurroundedKing::seed, 0, 2147483647, -1, LEAST);
    }

    private static void countPositionsAndSolve() {
        Supplier<SurroundedKing> most = () -> Checks.boardOf("fl", false, "---", "--k", "-hg");
        Supplier<SurroundedKing> more = () -> Checks.boardOf("fl", false, "---", "k--", "hg-");
        checks.allowed("countPositions of 400", most, x -> x.countPositions(), 400);
        checks.allowed("solve of 400", most, x -> x.solve(), 'g');
        checks.refused("countPositions of 401", SUM, more, x -> x.countPositions());
        checks.refused("solve of 401", SUM, more, x -> x.solve());
        checks.refused("countPositions of very many", SUM, RefusedTests::told, x -> x.countPositions());
        checks.refused("solve of very many", SUM, RefusedTests::told, x -> x.solve());
    }

    private static void kept() {
        checks.allowed("kept(g)", RefusedTests::over, x -> x.kept('g'), 2);
        checks.allowed("kept(h)", RefusedTests::over, x -> x.kept('h'), 0);
        checks.allowed("kept(=)", RefusedTests::over, x -> x.kept('='), 0);
        checks.allowed("kept(-)", RefusedTests::over, x -> x.kept('-'), 2);
        refusedSigns("kept", RefusedTests::over, "gh=-", SurroundedKing::kept);
    }

    private static void balanceBits() {
        checks.allowed("balanceBits of one game", RefusedTests::told, x -> x.balanceBits(), 0x3f800000);
        checks.refused("balanceBits of a new object", SUM, SurroundedKing::new, x -> x.balanceBits());
        checks.refused("balanceBits of another board", SUM, () -> toldOn(3), x -> x.balanceBits());
        checks.refused("balanceBits of another ruleset", SUM, () -> {
            SurroundedKing x = told();
            x.setRules(25);
            return x;
        }, x -> x.balanceBits());
    }

    private static void know() {
        for (char rule : RULES.toCharArray()) {
            char before = rule == 'w' ? '1' : rule == 'p' ? '0' : '?';
            for (char known : "10?".toCharArray()) {
                checks.allowed("know(" + rule + ", " + known + ")", RefusedTests::told,
                        x -> x.know(rule, known) + "" + x.know(rule, '1'), before + "" + known);
            }
        }
        refusedSigns("know of the rule", RefusedTests::told, RULES, (x, rule) -> x.know(rule, '0'));
        refusedSigns("know of the knowledge", RefusedTests::told, "10?", (x, known) -> x.know('w', known));
        refusedSigns("know of neither", RefusedTests::told, RULES, (x, sign) -> x.know(sign, 'x'));
    }

    private static void tie() {
        for (char rule : RULES.toCharArray()) {
            for (char other : RULES.toCharArray()) {
                if (rule == other) {
                    checks.refused("tie of the same", WRONG, RefusedTests::told, x -> x.tie(rule, true, other, false));
                } else {
                    checks.allowed("tie of " + rule + other, RefusedTests::told,
                            x -> x.tie(rule, true, other, false), 2);
                }
            }
        }
        refusedSigns("tie of the rule", RefusedTests::told, RULES, (x, rule) -> x.tie(rule, true, 'e', true));
        refusedSigns("tie of the other", RefusedTests::told, RULES, (x, other) -> x.tie('e', false, other, false));
        refusedSigns("tie of neither", RefusedTests::told, RULES, (x, rule) -> x.tie(rule, true, rule, true));
    }

    private static SurroundedKing toldWithTies(int ties) {
        SurroundedKing x = told();
        for (int i = 1; i < ties; i++) {
            x.tie(RULES.charAt(i - 1), false, RULES.charAt(i), false);
        }
        return x;
    }

    private static void aNinthTie() {
        checks.allowed("an eighth tie", () -> toldWithTies(7), x -> x.tie('n', true, 'e', true), 8);
        checks.refused("a ninth tie", STATE, () -> toldWithTies(8), x -> x.tie('n', true, 'e', true));
        checks.refused("a ninth tie that is there", STATE, () -> toldWithTies(8), x -> x.tie('e', true, 'f', true));
        checks.refused("a ninth tie of no rule", WRONG, () -> toldWithTies(8), x -> x.tie('x', true, 'e', true));
        checks.refused("a ninth tie to no rule", WRONG, () -> toldWithTies(8), x -> x.tie('e', true, 'x', true));
        checks.refused("a ninth tie of the same", WRONG, () -> toldWithTies(8), x -> x.tie('e', true, 'e', true));
        checks.allowed("a tie behind untie", () -> toldWithTies(8),
                x -> x.untie() + " " + x.tie('n', true, 'e', true), "8 1");
    }

    private static void agreeing() {
        checks.same("countAgreeing", told().countAgreeing(), 48);
        checks.allowed("the first that agrees", RefusedTests::told, x -> x.agreeing(0), 2);
        checks.allowed("the last that agrees", RefusedTests::told, x -> x.agreeing(47), 223);
        refusedNumbers("agreeing", NONE, RefusedTests::told, SurroundedKing::agreeing, -1, 48, LEAST, MOST);
        checks.allowed("the last of all", SurroundedKing::new, x -> x.agreeing(255), 255);
        refusedNumbers("agreeing of all", NONE, SurroundedKing::new, SurroundedKing::agreeing, -1, 256, LEAST, MOST);
        refusedNumbers("agreeing of none", NONE, RefusedTests::toldSoThatNoneAgrees, SurroundedKing::agreeing, -1, 0,
                1, LEAST, MOST);
    }

    private static SurroundedKing toldSoThatNoneAgrees() {
        SurroundedKing x = told();
        x.know('e', '1');
        x.know('f', '0');
        return x;
    }

    private static void find() {
        for (int size : new int[] {3, 5, 7}) {
            int places = size * size;
            Supplier<SurroundedKing> maker = () -> toldOn(size);
            checks.allowed("find of the first place", maker, x -> x.find(0, '1') + "" + x.found(0), "?1");
            checks.allowed("find of the last place", maker, x -> x.find(places - 1, '0') + "" + x.found(places - 1),
                    "?0");
            refusedNumbers("find", NO_PLACE, maker, (x, place) -> x.find(place, '1'), -1, places, LEAST, MOST);
            refusedNumbers("find of no mark", NO_PLACE, maker, (x, place) -> x.find(place, 'x'), -1, places, LEAST,
                    MOST);
        }
        for (char mark : "10?".toCharArray()) {
            checks.allowed("find of " + mark, RefusedTests::told, x -> x.find(24, mark) + "" + x.found(24), "0" + mark);
        }
        refusedSigns("find", RefusedTests::told, "10?", (x, mark) -> x.find(24, mark));
    }

    private static void complete() {
        checks.allowed("complete(h)", RefusedTests::told, x -> x.complete('h'), 21);
        checks.allowed("complete(v)", RefusedTests::told, x -> x.complete('v'), 21);
        checks.allowed("complete(d)", RefusedTests::told, x -> x.complete('d'), 23);
        checks.refused("complete(r) of a place and an image that differ", CANNOT, RefusedTests::told,
                x -> x.complete('r'));
        checks.refused("complete(r) though others could be completed", CANNOT, () -> {
            SurroundedKing x = told();
            x.find(1, '1');
            x.find(20, '0');
            return x;
        }, x -> x.complete('r'));
        refusedSigns("complete", RefusedTests::told, "hvdr", SurroundedKing::complete);
    }

    private static void found() {
        for (int size : new int[] {3, 5, 7}) {
            int places = size * size;
            checks.allowed("found at the first place", () -> toldOn(size), x -> x.found(0), '?');
            checks.allowed("found at the last place", () -> toldOn(size), x -> x.found(places - 1), '?');
            refusedNumbers("found", NO_PLACE, () -> toldOn(size), SurroundedKing::found, -1, places, LEAST, MOST);
        }
    }

    private static void record() {
        checks.allowed("record(0, 0)", RefusedTests::told, x -> x.record(0, 0) + " " + x.middle(2, 2, 2), "2 0");
        checks.allowed("record(255, 2000)", RefusedTests::told, x -> x.record(255, 2000) + " " + x.middle(2, 2, 2),
                "2 255");
        refusedNumbers("record of rules", WRONG, RefusedTests::told, (x, rules) -> x.record(rules, 900), -1, 256,
                LEAST, MOST);
        refusedNumbers("record of a year", WRONG, RefusedTests::told, (x, year) -> x.record(7, year), -1, 2001,
                LEAST, MOST);
        refusedNumbers("record of both", WRONG, RefusedTests::told, (x, number) -> x.record(number, number), -1, 2001,
                LEAST, MOST);
    }

    private static SurroundedKing toldWithRecords(int records) {
        SurroundedKing x = told();
        for (int number = 2; number < records; number++) {
            x.record(number, 1000 + number);
        }
        return x;
    }

    private static void anEleventhRecord() {
        checks.allowed("a tenth", () -> toldWithRecords(9), x -> x.record(9, 9), 9);
        checks.refused("an eleventh", STATE, () -> toldWithRecords(10), x -> x.record(9, 9));
        checks.refused("an eleventh of the first", STATE, () -> toldWithRecords(10), x -> x.record(7, 900));
        refusedNumbers("an eleventh of no rules", WRONG, () -> toldWithRecords(10), (x, rules) -> x.record(rules, 9),
                -1, 256, LEAST, MOST);
        refusedNumbers("an eleventh of no year", WRONG, () -> toldWithRecords(10), (x, year) -> x.record(9, year), -1,
                2001, LEAST, MOST);
    }

    private static void parent() {
        checks.allowed("parent of the first", RefusedTests::told, x -> x.parent(0), 1);
        checks.allowed("parent of the last", RefusedTests::told, x -> x.parent(1), -1);
        refusedNumbers("parent", NO_PLACE, RefusedTests::told, SurroundedKing::parent, -1, 2, 10, LEAST, MOST);
        refusedNumbers("parent of none", NO_PLACE, SurroundedKing::new, SurroundedKing::parent, -1, 0, LEAST, MOST);
        checks.allowed("parent of a tenth", () -> toldWithRecords(10), x -> x.parent(9), 8);
        refusedNumbers("parent of ten", NO_PLACE, () -> toldWithRecords(10), SurroundedKing::parent, 10);
    }

    private static void unlike() {
        checks.allowed("unlike", RefusedTests::told, x -> x.unlike(0, 1) + " " + x.unlike(1, 0), "1 1");
        checks.allowed("unlike of the same", RefusedTests::told, x -> x.unlike(0, 0) + " " + x.unlike(1, 1), "0 0");
        refusedNumbers("unlike of the one", NO_PLACE, RefusedTests::told, (x, record) -> x.unlike(record, 0), -1, 2,
                10, LEAST, MOST);
        refusedNumbers("unlike of the other", NO_PLACE, RefusedTests::told, (x, record) -> x.unlike(0, record), -1, 2,
                10, LEAST, MOST);
        refusedNumbers("unlike of none", NO_PLACE, SurroundedKing::new, (x, record) -> x.unlike(record, record), -1,
                0, LEAST, MOST);
        refusedNumbers("unlike of ten", NO_PLACE, () -> toldWithRecords(10), (x, record) -> x.unlike(9, record), 10);
    }

    private static void middle() {
        checks.allowed("middle", RefusedTests::told, x -> x.middle(0, 1, 1) + " " + x.middle(0, 1, 0), "3 7");
        refusedNumbers("middle of the one", NO_PLACE, RefusedTests::told, (x, record) -> x.middle(record, 0, 1), -1,
                2, 10, LEAST, MOST);
        refusedNumbers("middle of the other", NO_PLACE, RefusedTests::told, (x, record) -> x.middle(0, record, 1), -1,
                2, 10, LEAST, MOST);
        refusedNumbers("middle of the third", NO_PLACE, RefusedTests::told, (x, record) -> x.middle(0, 1, record), -1,
                2, 10, LEAST, MOST);
        refusedNumbers("middle of none", NO_PLACE, SurroundedKing::new, (x, record) -> x.middle(record, 0, 0), -1, 0,
                LEAST, MOST);
        refusedNumbers("middle of ten", NO_PLACE, () -> toldWithRecords(10), (x, record) -> x.middle(9, 9, record),
                10);
    }

    private static void meanOn() {
        checks.allowed("meanOn of two", RefusedTests::told, x -> x.meanOn(), 2.5);
        checks.refused("meanOn of none", SUM, SurroundedKing::new, x -> x.meanOn());
    }
}
