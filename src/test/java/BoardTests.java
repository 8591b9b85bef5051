/** Promises 1 to 13: boards, rules, men. */
public final class BoardTests {
    private static final Class<IndexOutOfBoundsException> NO_PLACE = IndexOutOfBoundsException.class;
    private static final Class<IllegalArgumentException> WRONG = IllegalArgumentException.class;
    private static final Class<UnsupportedOperationException> CANNOT = UnsupportedOperationException.class;
    private static final Checks checks = new Checks();

    public static void main(String[] args) {
        promise1NewObject();
        promise2Board();
        promise3Rule();
        promise4And5Rulesets();
        promise6Put();
        promise6Exceptions();
        promise7Begin();
        promise8And9AtAndKing();
        promise10Count();
        promise11IsTurn();
        promise12IsHostile();
        promise13Surrounds();
        checks.end();
    }

    private static void promise1NewObject() {
        SurroundedKing x = new SurroundedKing();
        checks.same("men", Checks.menOf(x), "------------k------------");
        checks.same("isTurn", x.isTurn(), true);
        checks.same("rules", x.rules(), 0);
        checks.same("winner without hunters", x.winner(), 'g');
        checks.same("countMade", x.countMade(), 0);
        checks.same("kept", x.kept('-'), 0);
        checks.same("found", x.found(24), '?');
        checks.same("countAgreeing", x.countAgreeing(), 256);
        checks.same("z", x.seed(5), 1);
    }

    private static void promise2Board() {
        SurroundedKing x = new SurroundedKing();
        x.setRules(17);
        x.seed(9);
        x.put(3, 'h');
        x.put(1, 'k');
        x.begin(false);
        x.find(0, '1');
        checks.same("board(7)", x.board(7), 5);
        checks.same("men of 7", Checks.menOf(x), "-".repeat(24) + "k" + "-".repeat(24));
        checks.same("turn of a board", x.isTurn(), true);
        checks.same("find of a board", x.found(0), '?');
        checks.same("rules stay", x.rules(), 17);
        checks.same("z stays", x.seed(9), 9);
        checks.same("board(3)", x.board(3), 7);
        checks.same("men of 3", Checks.menOf(x), "----k----");
        x.find(8, '0');
        x.put(0, 'h');
        x.move(0, 1);
        checks.same("board(3) again", x.board(3), 3);
        checks.same("a game begins", x.countMade(), 0);
        checks.same("men again", Checks.menOf(x), "----k----");
        checks.same("find again", x.found(8), '?');
        for (int size : new int[] {-3, 0, 1, 2, 4, 6, 8, 9, Integer.MIN_VALUE, Integer.MAX_VALUE}) {
            checks.thrown(x, "board(" + size + ")", WRONG, () -> x.board(size));
        }
    }

    private static void promise3Rule() {
        SurroundedKing x = new SurroundedKing();
        int bit = 1;
        for (char rule : "ewftcpln".toCharArray()) {
            checks.same("off before " + rule, x.rule(rule, true), false);
            checks.same("bit of " + rule, x.rules(), bit);
            checks.same("on before " + rule, x.rule(rule, true), true);
            checks.same("still on " + rule, x.rules(), bit);
            checks.same("on then " + rule, x.rule(rule, false), true);
            checks.same("off " + rule, x.rules(), 0);
            bit *= 2;
        }
        for (char rule : new char[] {'z', 'E', ' ', 0, '-', 'h', (char) 233, (char) 0x4265}) {
            checks.thrown(x, "rule(" + rule + ")", WRONG, () -> x.rule(rule, true));
        }
        SurroundedKing y = Checks.boardOf("", true, "-----", "-h---", "--k--", "-----", "-----");
        y.move(6, 5);
        checks.same("told as it is, with the turn as it is", y.rule('e', false), false);
        checks.same("a game begins", y.countMade(), 0);
        checks.same("the turn stays", y.isTurn(), false);
        checks.same("position once", y.repeats(), 1);
    }

    private static void promise4And5Rulesets() {
        SurroundedKing x = new SurroundedKing();
        checks.same("rules at first", x.rules(), 0);
        checks.same("setRules(255)", x.setRules(255), 0);
        checks.same("rules", x.rules(), 255);
        checks.same("rule e", x.rule('e', false), true);
        checks.same("rule n", x.rule('n', false), true);
        checks.same("rules less two", x.rules(), 126);
        checks.same("setRules(0)", x.setRules(0), 126);
        checks.same("rules none", x.rules(), 0);
        for (int rules : new int[] {-1, 256, Integer.MIN_VALUE, Integer.MAX_VALUE}) {
            checks.thrown(x, "setRules(" + rules + ")", WRONG, () -> x.setRules(rules));
        }
        SurroundedKing y = Checks.boardOf("", true, "-----", "-h---", "--k--", "-----", "-----");
        y.move(6, 5);
        y.setRules(0);
        checks.same("a game begins", y.countMade() + " " + y.isTurn(), "0 false");
    }

    private static void promise6Put() {
        SurroundedKing x = new SurroundedKing();
        checks.same("put h", x.put(0, 'h'), '-');
        checks.same("put g over h", x.put(0, 'g'), 'h');
        checks.same("put h over g", x.put(0, 'h'), 'g');
        checks.same("put nobody", x.put(0, '-'), 'h');
        checks.same("put nobody again", x.put(0, '-'), '-');
        x.put(24, 'h');
        x.put(7, 'g');
        checks.same("the king is moved to a guard's place", x.put(7, 'k'), 'g');
        checks.same("men", Checks.menOf(x), "-------k----------------h");
        checks.same("the king is moved to a hunter's place", x.put(24, 'k'), 'h');
        checks.same("men then", Checks.menOf(x), "-".repeat(24) + "k");
        x.put(0, 'h');
        x.move(0, 1);
        x.put(3, '-');
        checks.same("a game begins", x.countMade() + " " + x.isTurn(), "0 false");
        promise6KingTaken();
    }

    private static void promise6KingTaken() {
        SurroundedKing x = kingTaken();
        checks.same("winner", x.winner(), 'h');
        checks.same("put without a king", x.put(4, 'g'), '-');
        checks.same("winner of a game without a king", x.winner(), 'h');
        checks.same("made", x.countMade(), 0);
        checks.same("the king comes again", x.put(3, 'k'), '-');
        checks.same("king", x.king(), 3);
        checks.same("the game goes on", x.winner(), '-');
    }

    /** A game in which the king was taken by two. */
    private static SurroundedKing kingTaken() {
        SurroundedKing x = Checks.boardOf("", true, "-----", "---h-", "-hk--", "-----", "-----");
        checks.same("the king is taken", x.move(8, 13), 1);
        return x;
    }

    private static void promise6Exceptions() {
        SurroundedKing x = new SurroundedKing();
        x.put(0, 'h');
        x.move(0, 1);
        for (int place : new int[] {-1, 25, 49, Integer.MIN_VALUE, Integer.MAX_VALUE}) {
            checks.thrown(x, "put(" + place + ")", NO_PLACE, () -> x.put(place, 'h'));
            checks.thrown(x, "put of nobody like that", NO_PLACE, () -> x.put(place, 'x'));
        }
        for (char man : new char[] {'x', 'H', '?', '=', 0, (char) 233, (char) 0x0168}) {
            checks.thrown(x, "put(2, " + man + ")", WRONG, () -> x.put(2, man));
            checks.thrown(x, "put at the king of " + man, WRONG, () -> x.put(12, man));
        }
        for (char man : "hgk-".toCharArray()) {
            checks.thrown(x, "put at the king " + man, CANNOT, () -> x.put(12, man));
        }
    }

    private static void promise7Begin() {
        SurroundedKing x = Checks.boardOf("", true, "-----", "-h---", "--k--", "-----", "-----");
        checks.same("begin(true) as it is", x.begin(true), true);
        checks.same("begin(false)", x.begin(false), true);
        checks.same("isTurn", x.isTurn(), false);
        x.move(12, 13);
        checks.same("begin behind a move", x.begin(true), true);
        checks.same("made", x.countMade(), 0);
        checks.same("begin(false) again", x.begin(false), true);
        checks.same("begin(false) as it is", x.begin(false), false);
        checks.same("men stay", Checks.menOf(x), "------h------k-----------");
        SurroundedKing y = kingTaken();
        y.begin(true);
        checks.same("a game begins without a king", y.winner() + " " + y.countMade(), "h 0");
        SurroundedKing edge = Checks.boardOf("e", true, "k----", "-----", "-----", "-----", "----h");
        checks.same("the king's way is not looked at", edge.winner(), '-');
        SurroundedKing closed = Checks.boardOf("nf", true, "-----", "--h--", "-hkh-", "-gh--", "-----");
        closed.put(16, '-');
        checks.same("surrounding is not looked at", closed.surrounds() + " " + closed.winner(), "true -");
        checks.same("guards that cannot move", closed.begin(false) + " " + closed.winner(), "true h");
        SurroundedKing stuck = Checks.boardOf("l", true, "hg---", "g----", "--k--", "-----", "-----");
        checks.same("hunters that cannot move", stuck.winner(), 'g');
        checks.same("it is not their turn", stuck.begin(false) + " " + stuck.winner(), "true -");
    }

    private static void promise8And9AtAndKing() {
        SurroundedKing x = Checks.boardOf("", true, "h--", "-gk", "---");
        checks.same("hunter", x.at(0), 'h');
        checks.same("guard", x.at(4), 'g');
        checks.same("king", x.at(5), 'k');
        checks.same("nobody", x.at(8), '-');
        checks.same("king()", x.king(), 5);
        for (int place : new int[] {-1, 9, Integer.MIN_VALUE, Integer.MAX_VALUE}) {
            checks.thrown(x, "at(" + place + ")", NO_PLACE, () -> x.at(place));
        }
        SurroundedKing y = kingTaken();
        checks.same("at of a king who is taken", y.at(12), '-');
        checks.same("king() of one who is taken", y.king(), -1);
        y.undo();
        checks.same("at of a king taken back", y.at(12), 'k');
        checks.same("king() of one taken back", y.king(), 12);
        y.board(7);
        y.put(48, 'k');
        checks.same("king() at the last place", y.king(), 48);
        y.put(0, 'k');
        checks.same("king() at the first place", y.king(), 0);
    }

    private static void promise10Count() {
        SurroundedKing x = Checks.boardOf("", true, "h---h", "-g---", "--k--", "-----", "----h");
        checks.same("hunters", x.count('h'), 3);
        checks.same("guards", x.count('g'), 1);
        x.board(5);
        checks.same("no hunters", x.count('h'), 0);
        checks.same("no guards", x.count('g'), 0);
        for (char man : new char[] {'k', '-', 'x', 'G', 0, (char) 0x4168}) {
            checks.thrown(x, "count(" + man + ")", WRONG, () -> x.count(man));
        }
    }

    private static void promise11IsTurn() {
        SurroundedKing x = Checks.boardOf("", true, "h--", "-k-", "--h");
        checks.same("hunters first", x.isTurn(), true);
        x.move(0, 1);
        checks.same("guards then", x.isTurn(), false);
        x.move(4, 3);
        checks.same("hunters again", x.isTurn(), true);
        x.undo();
        checks.same("taken back", x.isTurn(), false);
        checks.same("behind the taking of the king", kingTaken().isTurn(), false);
    }

    private static void promise12IsHostile() {
        SurroundedKing x = Checks.boardOf("", true, "-g--h", "-----", "--k--", "-----", "-----");
        checks.same("a hunter", hostileTo(x, 4), "gk");
        checks.same("a guard", hostileTo(x, 1), "h");
        checks.same("the king", hostileTo(x, 12), "h");
        checks.same("nobody", hostileTo(x, 7), "");
        checks.same("an empty corner", hostileTo(x, 0), "");
        x.rule('w', true);
        checks.same("the king without arms", hostileTo(x, 12), "");
        checks.same("a guard with w", hostileTo(x, 1), "h");
        x.setRules(8);
        checks.same("the throne with the king", hostileTo(x, 12), "h");
        x.put(17, 'k');
        checks.same("the empty throne", hostileTo(x, 12), "hgk");
        checks.same("an empty corner with t", hostileTo(x, 24), "");
        x.put(12, 'h');
        checks.same("the throne with a hunter", hostileTo(x, 12), "gk");
        x.put(12, '-');
        x.setRules(16 + 4);
        checks.same("the empty throne without t", hostileTo(x, 12), "");
        checks.same("empty corners", hostileTo(x, 0) + hostileTo(x, 20) + hostileTo(x, 24), "hgkhgkhgk");
        checks.same("a corner with a hunter", hostileTo(x, 4), "gk");
        checks.same("no corner", hostileTo(x, 2) + hostileTo(x, 5) + hostileTo(x, 9), "");
        x.setRules(0);
        x.put(0, 'g');
        checks.same("a corner with a guard", hostileTo(x, 0), "h");
        for (int place : new int[] {-1, 25, Integer.MIN_VALUE, Integer.MAX_VALUE}) {
            checks.thrown(x, "isHostile(" + place + ")", NO_PLACE, () -> x.isHostile(place, 'h'));
            checks.thrown(x, "isHostile both", NO_PLACE, () -> x.isHostile(place, '-'));
        }
        for (char man : new char[] {'-', 'x', 'K', 0, (char) 0x4168}) {
            checks.thrown(x, "isHostile(0, " + man + ")", WRONG, () -> x.isHostile(0, man));
        }
    }

    private static String hostileTo(SurroundedKing x, int place) {
        StringBuilder text = new StringBuilder();
        for (char man : "hgk".toCharArray()) {
            text.append(x.isHostile(place, man) ? String.valueOf(man) : "");
        }
        return text.toString();
    }

    private static void promise13Surrounds() {
        SurroundedKing x = Checks.boardOf("", true, "-----", "--h--", "-hkh-", "--h--", "-----");
        checks.same("four hunters", x.surrounds(), true);
        x.put(18, '-');
        checks.same("an open corner does not lead", x.surrounds(), true);
        x.put(6, 'g');
        checks.same("a guard outside", x.surrounds(), false);
        x.put(6, '-');
        x.put(13, '-');
        checks.same("a way to the right", x.surrounds(), false);
        x.put(13, 'g');
        checks.same("a guard in the way", x.surrounds(), false);
        x.put(14, 'h');
        x.put(8, 'h');
        x.put(18, 'h');
        checks.same("a guard within", x.surrounds(), true);
        x.put(20, 'g');
        checks.same("a guard at the edge", x.surrounds(), false);
        SurroundedKing edge = Checks.boardOf("", true, "kh---", "h----", "-----", "-----", "-----");
        checks.same("a king at the edge", edge.surrounds(), false);
        checks.same("a king who is taken", kingTaken().surrounds(), false);
        checks.same("nobody hunts", new SurroundedKing().surrounds(), false);
        SurroundedKing wide = Checks.boardOf("", true,
                "-------", "-hhhhh-", "-h---h-", "-h-k-h-", "-h---h-", "-hhhhh-", "-------");
        checks.same("from afar", wide.surrounds(), true);
        wide.put(8, '-');
        checks.same("only corner to corner", wide.surrounds(), true);
        wide.put(9, '-');
        checks.same("a gap", wide.surrounds(), false);
    }
}
