import java.util.NoSuchElementException;

/** Promises 31 to 45: gaps, finds, families, the sum and the check. */
public final class GapTests {
    private static final Class<IndexOutOfBoundsException> NO_PLACE = IndexOutOfBoundsException.class;
    private static final Class<IllegalArgumentException> WRONG = IllegalArgumentException.class;
    private static final Class<IllegalStateException> FULL = IllegalStateException.class;
    private static final Class<NoSuchElementException> NONE = NoSuchElementException.class;
    private static final Class<UnsupportedOperationException> CANNOT = UnsupportedOperationException.class;
    private static final Class<ArithmeticException> NO_MEAN = ArithmeticException.class;
    private static final String RULES = "ewftcpln";
    private static final char[] NO_RULES = {'z', 'E', ' ', 0, '-', 'h', (char) 233, (char) 0x4265};
    private static final Checks checks = new Checks();

    public static void main(String[] args) {
        documentExamples();
        promise31Know();
        promise32Tie();
        promise32Exceptions();
        promise33Untie();
        promise34And35Agreeing();
        promise36And38FindAndFound();
        promise37Complete();
        promise37CompleteByEach();
        promise37Exceptions();
        promise39Record();
        promise40Parent();
        promise41Unlike();
        promise42Middle();
        promise43MeanOn();
        promise44Checksum();
        promise45IsSound();
        checks.end();
    }

    private static void documentExamples() {
        SurroundedKing x = new SurroundedKing();
        checks.same("know('w', '1')", x.know('w', '1'), '?');
        checks.same("tie('w', true, 'f', true)", x.tie('w', true, 'f', true), 1);
        checks.same("tie('f', true, 't', false)", x.tie('f', true, 't', false), 2);
        checks.same("countAgreeing()", x.countAgreeing(), 32);
        checks.same("agreeing(0)", x.agreeing(0), 6);
        SurroundedKing y = new SurroundedKing();
        checks.same("board(3)", y.board(3), 5);
        checks.same("find(0, '1')", y.find(0, '1'), '?');
        checks.same("find(1, '0')", y.find(1, '0'), '?');
        checks.same("complete('h')", y.complete('h'), 6);
        checks.same("found(2)", y.found(2), '1');
        checks.same("complete('v')", y.complete('v'), 3);
        checks.same("found(6)", y.found(6), '1');
        checks.same("found(4)", y.found(4), '?');
        SurroundedKing z = new SurroundedKing();
        checks.same("record(7, 900)", z.record(7, 900), 0);
        checks.same("record(3, 700)", z.record(3, 700), 1);
        checks.same("record(255, 800)", z.record(255, 800), 2);
        checks.same("parent(0)", z.parent(0), 1);
        checks.same("parent(2)", z.parent(2), 1);
        checks.same("middle(0, 1, 2)", z.middle(0, 1, 2), 7);
    }

    private static void promise31Know() {
        SurroundedKing x = new SurroundedKing();
        for (int i = 0; i < 8; i++) {
            char rule = RULES.charAt(i);
            checks.same("know on " + rule, x.know(rule, '1'), '?');
            checks.same("half of them", x.countAgreeing() + " " + x.agreeing(0), "128 " + (1 << i));
            checks.same("know off " + rule, x.know(rule, '0'), '1');
            checks.same("the other half", x.countAgreeing() + " " + (x.agreeing(127) & 1 << i), "128 0");
            checks.same("know off again " + rule, x.know(rule, '0'), '0');
            checks.same("know nothing " + rule, x.know(rule, '?'), '0');
            checks.same("all of them", x.countAgreeing(), 256);
            checks.same("know nothing again " + rule, x.know(rule, '?'), '?');
        }
        for (char rule : NO_RULES) {
            checks.thrown(x, "know(" + rule + ")", WRONG, () -> x.know(rule, '1'));
        }
        for (char known : new char[] {'x', '2', '-', 0, (char) 0x4131}) {
            checks.thrown(x, "know(e, " + known + ")", WRONG, () -> x.know('e', known));
        }
        x.setRules(255);
        checks.same("what is known is not the ruleset", x.know('e', '1'), '?');
        checks.same("nor the ruleset what is known", x.rules(), 255);
    }

    private static void promise32Tie() {
        boolean[] both = {true, false};
        for (boolean isOn : both) {
            for (boolean isOther : both) {
                SurroundedKing x = new SurroundedKing();
                checks.same("tie", x.tie('e', isOn, 'n', isOther), 1);
                checks.same("three quarters", x.countAgreeing(), 192);
                x.know('e', isOn ? '1' : '0');
                checks.same("it binds", x.countAgreeing() + " " + (x.agreeing(0) >= 128), "64 " + isOther);
                x.know('e', isOn ? '0' : '1');
                checks.same("it does not bind", x.countAgreeing(), 128);
            }
        }
        SurroundedKing x = new SurroundedKing();
        for (int i = 1; i <= 7; i++) {
            checks.same("tie " + i, x.tie(RULES.charAt(i - 1), true, RULES.charAt(i), true), i);
        }
        checks.same("a chain", x.countAgreeing(), 9);
        checks.same("the eighth", x.tie('n', true, 'e', true), 8);
        checks.same("a ring", x.countAgreeing() + " " + x.agreeing(0) + " " + x.agreeing(1), "2 0 255");
    }

    private static void promise32Exceptions() {
        SurroundedKing x = new SurroundedKing();
        for (char rule : NO_RULES) {
            checks.thrown(x, "tie(" + rule + ")", WRONG, () -> x.tie(rule, true, 'e', true));
            checks.thrown(x, "tie(e, " + rule + ")", WRONG, () -> x.tie('e', true, rule, true));
        }
        checks.thrown(x, "tie of the same", WRONG, () -> x.tie('e', true, 'e', false));
        for (int i = 0; i < 8; i++) {
            x.tie('e', true, 'w', true);
        }
        checks.thrown(x, "a ninth tie", FULL, () -> x.tie('e', false, 'w', true));
        checks.thrown(x, "a ninth tie of no rule", WRONG, () -> x.tie('z', true, 'w', true));
        checks.thrown(x, "a ninth tie of the same", WRONG, () -> x.tie('w', true, 'w', true));
        checks.same("there are 8", x.untie(), 8);
    }

    private static void promise33Untie() {
        SurroundedKing x = new SurroundedKing();
        checks.same("none", x.untie(), 0);
        x.tie('e', true, 'w', true);
        x.tie('e', true, 'w', false);
        x.know('n', '1');
        checks.same("two", x.untie(), 2);
        checks.same("none then", x.untie(), 0);
        checks.same("what is known stays", x.countAgreeing(), 128);
        checks.same("the first one again", x.tie('e', false, 'w', true), 1);
        checks.same("the old ones are away", x.countAgreeing(), 96);
    }

    private static void promise34And35Agreeing() {
        SurroundedKing x = new SurroundedKing();
        checks.same("all", x.countAgreeing(), 256);
        for (int index = 0; index < 256; index++) {
            checks.same("agreeing(" + index + ")", x.agreeing(index), index);
        }
        for (int index : new int[] {-1, 256, Integer.MIN_VALUE, Integer.MAX_VALUE}) {
            checks.thrown(x, "agreeing(" + index + ")", NONE, () -> x.agreeing(index));
        }
        x.know('e', '1');
        x.know('p', '0');
        x.tie('w', false, 'f', true);
        checks.same("some", x.countAgreeing(), 48);
        checks.same("rising", x.agreeing(0) + " " + x.agreeing(1) + " " + x.agreeing(2) + " " + x.agreeing(47),
                "3 5 7 223");
        checks.thrown(x, "agreeing(48)", NONE, () -> x.agreeing(48));
        x.know('w', '0');
        x.know('f', '0');
        checks.same("none", x.countAgreeing(), 0);
        checks.thrown(x, "agreeing(0) of none", NONE, () -> x.agreeing(0));
        x.board(3);
        checks.same("boards do not change it", x.countAgreeing(), 0);
    }

    private static void promise36And38FindAndFound() {
        SurroundedKing x = new SurroundedKing();
        for (int place = 0; place < 25; place++) {
            checks.same("broken at first", x.found(place), '?');
        }
        checks.same("find 1", x.find(24, '1'), '?');
        checks.same("found 1", x.found(24), '1');
        checks.same("find 0", x.find(24, '0'), '1');
        checks.same("found 0", x.found(24), '0');
        checks.same("find ?", x.find(24, '?'), '0');
        checks.same("found ?", x.found(24), '?');
        checks.same("find ? again", x.find(24, '?'), '?');
        checks.same("the board is another thing", Checks.menOf(x) + x.countMade(), "------------k------------0");
        for (int place : new int[] {-1, 25, 49, Integer.MIN_VALUE, Integer.MAX_VALUE}) {
            checks.thrown(x, "find(" + place + ")", NO_PLACE, () -> x.find(place, '1'));
            checks.thrown(x, "find both", NO_PLACE, () -> x.find(place, 'x'));
            checks.thrown(x, "found(" + place + ")", NO_PLACE, () -> x.found(place));
        }
        for (char mark : new char[] {'x', '2', '-', 0, (char) 0x4131}) {
            checks.thrown(x, "find(0, " + mark + ")", WRONG, () -> x.find(0, mark));
        }
        x.board(7);
        checks.same("the last place of 7", x.find(48, '1') + "" + x.found(48), "?1");
    }

    private static String findOf(SurroundedKing x, int places) {
        StringBuilder marks = new StringBuilder();
        for (int place = 0; place < places; place++) {
            marks.append(x.found(place));
        }
        return marks.toString();
    }

    private static SurroundedKing findOn(int size, String marks) {
        SurroundedKing x = new SurroundedKing();
        x.board(size);
        for (int place = 0; place < marks.length(); place++) {
            x.find(place, marks.charAt(place));
        }
        return x;
    }

    private static void promise37Complete() {
        SurroundedKing x = findOn(3, "?????????");
        checks.same("all broken", x.complete('h'), 9);
        SurroundedKing whole = findOn(3, "101010101");
        checks.same("none broken", whole.complete('d') + findOf(whole, 9), "0101010101");
        SurroundedKing both = findOn(3, "1?0" + "?0?" + "0??");
        checks.same("each by its image", both.complete('d') + " " + findOf(both, 9), "5 1?0?0?0??");
        checks.same("then by a half turn", both.complete('r') + " " + findOf(both, 9), "4 1?0?0?0?1");
        checks.same("told", both.find(8, '0'), '1');
        checks.thrown(both, "complete of unlike ones", CANNOT, () -> both.complete('r'));
    }

    private static void promise37CompleteByEach() {
        for (int size : new int[] {3, 5, 7}) {
            for (char symmetry : "hvdr".toCharArray()) {
                for (int place = 0; place < size * size; place++) {
                    completeOne(size, symmetry, place);
                }
            }
        }
    }

    private static void completeOne(int size, char symmetry, int place) {
        int row = place / size;
        int column = place % size;
        int image = switch (symmetry) {
            case 'h' -> row * size + (size - 1 - column);
            case 'v' -> (size - 1 - row) * size + column;
            case 'd' -> column * size + row;
            default -> (size - 1 - row) * size + (size - 1 - column);
        };
        SurroundedKing x = new SurroundedKing();
        x.board(size);
        x.find(place, place % 2 == 0 ? '1' : '0');
        int broken = size * size - (image == place ? 1 : 2);
        checks.same("complete('" + symmetry + "') of " + place, x.complete(symmetry), broken);
        checks.same("image of " + place, x.found(image), place % 2 == 0 ? '1' : '0');
    }

    private static void promise37Exceptions() {
        SurroundedKing x = findOn(3, "1?0" + "???" + "??1");
        checks.thrown(x, "complete('h')", CANNOT, () -> x.complete('h'));
        x.find(0, '0');
        checks.thrown(x, "complete('r')", CANNOT, () -> x.complete('r'));
        checks.thrown(x, "complete('v')", CANNOT, () -> x.complete('v'));
        checks.same("it can be by h", x.complete('h'), 5);
        checks.same("marks", findOf(x, 9), "0?0???1?1");
        for (char symmetry : new char[] {'x', 'H', 'q', 0, '1', (char) 0x4168}) {
            checks.thrown(x, "complete(" + symmetry + ")", WRONG, () -> x.complete(symmetry));
        }
    }

    private static void promise39Record() {
        SurroundedKing x = new SurroundedKing();
        for (int number = 0; number < 10; number++) {
            checks.same("record " + number, x.record(number * 28, number == 0 ? 0 : 2000), number);
            checks.same("ruleset of " + number, x.middle(number, number, number), number * 28);
        }
        checks.thrown(x, "an eleventh", FULL, () -> x.record(0, 0));
        checks.thrown(x, "an eleventh that is wrong", WRONG, () -> x.record(256, 0));
        SurroundedKing y = new SurroundedKing();
        for (int wrong : new int[] {-1, 256, Integer.MIN_VALUE, Integer.MAX_VALUE}) {
            checks.thrown(y, "record(" + wrong + ", 5)", WRONG, () -> y.record(wrong, 5));
        }
        for (int wrong : new int[] {-1, 2001, Integer.MIN_VALUE, Integer.MAX_VALUE}) {
            checks.thrown(y, "record(5, " + wrong + ")", WRONG, () -> y.record(5, wrong));
        }
        checks.same("record(255, 2000)", y.record(255, 2000), 0);
        checks.same("record(0, 0)", y.record(0, 0), 1);
        y.board(3);
        checks.same("boards do not change it", y.record(1, 1), 2);
    }

    private static void promise40Parent() {
        SurroundedKing x = new SurroundedKing();
        x.record(15, 100);
        checks.same("none of lower years", x.parent(0), -1);
        x.record(14, 100);
        checks.same("none of the same year", x.parent(0) + " " + x.parent(1), "-1 -1");
        x.record(13, 50);
        checks.same("the older one", x.parent(0) + " " + x.parent(1) + " " + x.parent(2), "2 2 -1");
        x.record(11, 60);
        checks.same("of like ones the later one", x.parent(0), 3);
        x.record(7, 60);
        checks.same("then the lower number", x.parent(0), 3);
        x.record(12, 99);
        checks.same("not a later one that is less like", x.parent(0), 3);
        x.record(15, 0);
        checks.same("the fewest unlike rules", x.parent(0) + " " + x.parent(6), "6 -1");
        x.record(14, 55);
        checks.same("of a lower number", x.parent(3) + " " + x.parent(7), "6 6");
        SurroundedKing lower = new SurroundedKing();
        lower.record(1, 10);
        lower.record(2, 10);
        lower.record(0, 20);
        checks.same("the lower number of two", lower.parent(2), 0);
        for (int record : new int[] {-1, 3, 10, Integer.MIN_VALUE, Integer.MAX_VALUE}) {
            checks.thrown(lower, "parent(" + record + ")", NO_PLACE, () -> lower.parent(record));
        }
    }

    private static void promise41Unlike() {
        SurroundedKing x = new SurroundedKing();
        x.record(0, 0);
        x.record(255, 0);
        x.record(0b10100101, 9);
        checks.same("all", x.unlike(0, 1) + " " + x.unlike(1, 0), "8 8");
        checks.same("half", x.unlike(0, 2) + " " + x.unlike(2, 1), "4 4");
        checks.same("none", x.unlike(2, 2), 0);
        for (int record : new int[] {-1, 3, 10, Integer.MIN_VALUE, Integer.MAX_VALUE}) {
            checks.thrown(x, "unlike(" + record + ", 0)", NO_PLACE, () -> x.unlike(record, 0));
            checks.thrown(x, "unlike(0, " + record + ")", NO_PLACE, () -> x.unlike(0, record));
        }
    }

    private static void promise42Middle() {
        SurroundedKing x = new SurroundedKing();
        x.record(0b11110000, 0);
        x.record(0b11001100, 0);
        x.record(0b10101010, 0);
        checks.same("most of them", x.middle(0, 1, 2), 0b11101000);
        checks.same("in any order", x.middle(2, 0, 1), 0b11101000);
        checks.same("two the same", x.middle(0, 0, 2) + " " + x.middle(0, 2, 0) + " " + x.middle(2, 0, 0),
                "240 240 240");
        for (int record : new int[] {-1, 3, 10, Integer.MIN_VALUE, Integer.MAX_VALUE}) {
            checks.thrown(x, "middle(" + record + ", 0, 0)", NO_PLACE, () -> x.middle(record, 0, 0));
            checks.thrown(x, "middle(0, " + record + ", 0)", NO_PLACE, () -> x.middle(0, record, 0));
            checks.thrown(x, "middle(0, 0, " + record + ")", NO_PLACE, () -> x.middle(0, 0, record));
        }
    }

    private static void promise43MeanOn() {
        SurroundedKing x = new SurroundedKing();
        checks.thrown(x, "meanOn of none", NO_MEAN, () -> x.meanOn());
        x.record(0, 0);
        checks.same("none on", x.meanOn(), 0.0);
        x.record(255, 0);
        checks.same("eight of two", x.meanOn(), 4.0);
        x.record(3, 0);
        checks.same("ten of three", x.meanOn(), 10.0 / 3.0);
    }

    private static void promise44Checksum() {
        SurroundedKing x = Checks.boardOf("en", true, "h--", "-kg", "---");
        x.seed(77);
        x.move(0, 1);
        long due = 7;
        for (char man : "-h--kg---".toCharArray()) {
            due = 31 * due + man;
        }
        due = 31 * due + 129;
        due = 31 * due + 1;
        due = 31 * due + 77;
        checks.same("checksum", x.checksum(), due);
        checks.same("of a new object", new SurroundedKing().checksum(), -7238713790198832195L);
        SurroundedKing y = new SurroundedKing();
        y.record(5, 5);
        y.find(0, '1');
        y.know('e', '1');
        y.begin(false);
        checks.same("of the board alone", y.checksum(), -7238713790198832195L);
    }

    private static void promise45IsSound() {
        SurroundedKing x = new SurroundedKing();
        checks.same("new", x.isSound(), true);
        for (int rules = 0; rules < 256; rules += 3) {
            SurroundedKing y = new SurroundedKing();
            y.board(3);
            y.put(0, 'h');
            y.put(7, 'h');
            y.put(5, 'g');
            y.setRules(rules);
            String before = Checks.stateOf(y);
            checks.same("with rules " + rules, y.isSound(), true);
            checks.same("nothing changes", Checks.stateOf(y), before);
            y.play(3);
            checks.same("played with rules " + rules, y.isSound(), true);
        }
        SurroundedKing big = Checks.boardOf("", true, "--hhh--", "---g---", "h--g--h", "hggkggh", "h--g--h",
                "---g---", "--hhh--");
        checks.same("a big board", big.isSound(), true);
        SurroundedKing taken = Checks.boardOf("", true, "-----", "---h-", "-hk--", "-----", "-----");
        taken.move(8, 13);
        checks.same("a king who is taken", taken.isSound(), true);
    }
}
