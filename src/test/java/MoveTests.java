import java.util.NoSuchElementException;

/** Promises 14 to 21: moves, captures, ends. */
public final class MoveTests {
    private static final Class<IndexOutOfBoundsException> NO_PLACE = IndexOutOfBoundsException.class;
    private static final Class<IllegalStateException> OVER = IllegalStateException.class;
    private static final Class<UnsupportedOperationException> CANNOT = UnsupportedOperationException.class;
    private static final Class<NoSuchElementException> NONE = NoSuchElementException.class;
    private static final Checks checks = new Checks();

    public static void main(String[] args) {
        documentExamples();
        promise14CanMove();
        promise14KingsPlaces();
        promise14Exceptions();
        promise15And16Moves();
        promise17Captures();
        promise17CapturesOfHunters();
        promise17HostilePlaces();
        promise17KingByTwo();
        promise17KingByFour();
        promise17Exceptions();
        promise18KingAway();
        promise18NoHunter();
        promise18Surrounding();
        promise18Stuck();
        promise18And20Repetition();
        promise18And19TwoHundred();
        promise19And21CountAndUndo();
        checks.end();
    }

    private static void documentExamples() {
        SurroundedKing x = new SurroundedKing();
        checks.same("board(3)", x.board(3), 5);
        checks.same("put(0, 'h')", x.put(0, 'h'), '-');
        checks.same("put(8, 'h')", x.put(8, 'h'), '-');
        checks.same("countMoves()", x.countMoves(), 8);
        checks.same("move(0, 1)", x.move(0, 1), 0);
        checks.same("move(4, 3)", x.move(4, 3), 0);
        checks.same("winner()", x.winner(), '-');
        checks.same("move(1, 0)", x.move(1, 0), 0);
        checks.same("move(3, 6)", x.move(3, 6), 0);
        checks.same("winner() then", x.winner(), 'g');
        SurroundedKing y = new SurroundedKing();
        checks.same("put(6, 'g')", y.put(6, 'g'), '-');
        checks.same("put(5, 'h')", y.put(5, 'h'), '-');
        checks.same("put(8, 'h')", y.put(8, 'h'), '-');
        checks.same("canMove(8, 7)", y.canMove(8, 7), true);
        checks.same("move(8, 7)", y.move(8, 7), 1);
        checks.same("at(6)", y.at(6), '-');
        checks.same("isTurn()", y.isTurn(), false);
        checks.same("winner()", y.winner(), '-');
    }

    /** The moves of the side whose turn it is, by canMove alone. */
    private static String movesOf(SurroundedKing x, int places) {
        StringBuilder moves = new StringBuilder();
        for (int from = 0; from < places; from++) {
            for (int to = 0; to < places; to++) {
                moves.append(x.canMove(from, to) ? from + "-" + to + " " : "");
            }
        }
        return moves.toString().trim();
    }

    private static void promise14CanMove() {
        SurroundedKing x = Checks.boardOf("", true, "h--", "-k-", "--g");
        checks.same("hunters as far as is free", movesOf(x, 9), "0-1 0-2 0-3 0-6");
        x.begin(false);
        checks.same("guards and the king", movesOf(x, 9), "4-1 4-3 4-5 4-7 8-2 8-5 8-6 8-7");
        x.rule('l', true);
        checks.same("guards one place", movesOf(x, 9), "4-1 4-3 4-5 4-7 8-5 8-7");
        x.begin(true);
        checks.same("hunters one place", movesOf(x, 9), "0-1 0-3");
        SurroundedKing y = Checks.boardOf("", true, "-g---", "-----", "-h--k", "-----", "-----");
        checks.same("not over somebody", movesOf(y, 25), "11-6 11-10 11-12 11-13 11-16 11-21");
        SurroundedKing over = Checks.boardOf("", false, "-----", "-----", "--k--", "-----", "h----");
        checks.same("to a corner", over.canMove(12, 14), true);
        over.move(12, 14);
        over.move(20, 21);
        over.move(14, 4);
        checks.same("over", over.winner(), 'g');
        checks.same("none if the game is over", movesOf(over, 25), "");
    }

    private static void promise14KingsPlaces() {
        SurroundedKing x = Checks.boardOf("p", true, "-----", "-----", "h----", "-----", "--k--");
        checks.same("hunters over the empty throne", movesOf(x, 25), "10-5 10-11 10-13 10-14 10-15");
        x.begin(false);
        checks.same("the king to corners", movesOf(x, 25), "22-2 22-7 22-12 22-17 22-20 22-21 22-23 22-24");
        x.put(2, 'g');
        checks.same("guards over the empty throne, not to corners", movesOf(x, 25),
                "2-1 2-3 2-7 2-17 22-7 22-12 22-17 22-20 22-21 22-23 22-24");
        x.put(12, 'k');
        checks.same("not over the king", x.canMove(2, 17) + " " + x.canMove(2, 7), "false true");
        x.put(2, '-');
        x.put(24, 'k');
        x.put(12, 'h');
        x.begin(true);
        checks.same("who stands on the throne goes off", x.canMove(12, 2) + " " + x.canMove(12, 11), "true true");
        x.put(10, 'h');
        checks.same("not over a hunter on the throne", x.canMove(10, 13), false);
        SurroundedKing one = Checks.boardOf("pl", true, "-----", "-----", "-h---", "-----", "---k-");
        checks.same("with l neither to the throne nor over it", movesOf(one, 25), "11-6 11-10 11-16");
        one.begin(false);
        checks.same("the king to a corner with l", one.canMove(23, 24), true);
        SurroundedKing off = Checks.boardOf("", true, "-----", "-----", "-h---", "-----", "---k-");
        checks.same("without p to the throne", off.canMove(11, 12), true);
        off.put(1, 'h');
        checks.same("without p to a corner", off.canMove(1, 0), true);
    }

    private static void promise14Exceptions() {
        SurroundedKing x = new SurroundedKing();
        for (int place : new int[] {-1, 25, Integer.MIN_VALUE, Integer.MAX_VALUE}) {
            checks.thrown(x, "canMove(" + place + ", 0)", NO_PLACE, () -> x.canMove(place, 0));
            checks.thrown(x, "canMove(12, " + place + ")", NO_PLACE, () -> x.canMove(12, place));
        }
    }

    private static void promise15And16Moves() {
        SurroundedKing x = Checks.boardOf("", false, "h--", "-k-", "--g");
        checks.same("countMoves", x.countMoves(), 8);
        int[] due = {401, 403, 405, 407, 802, 805, 806, 807};
        for (int i = 0; i < due.length; i++) {
            checks.same("moveAt(" + i + ")", x.moveAt(i), due[i]);
        }
        for (int index : new int[] {-1, 8, 9, Integer.MIN_VALUE, Integer.MAX_VALUE}) {
            checks.thrown(x, "moveAt(" + index + ")", NONE, () -> x.moveAt(index));
        }
        x.begin(true);
        checks.same("countMoves of hunters", x.countMoves(), 4);
        checks.same("first of hunters", x.moveAt(0), 1);
        checks.same("last of hunters", x.moveAt(3), 6);
        SurroundedKing over = new SurroundedKing();
        checks.same("countMoves of a game that is over", over.countMoves(), 0);
        checks.thrown(over, "moveAt of a game that is over", NONE, () -> over.moveAt(0));
        SurroundedKing big = Checks.boardOf("", false, "h------", "-------", "-------", "---k---",
                "-------", "-------", "-------");
        checks.same("most of the king", big.countMoves(), 12);
        checks.same("last of the king", big.moveAt(11), 2445);
    }

    private static String behind(SurroundedKing x, int from, int to) {
        int taken = x.move(from, to);
        return taken + " " + Checks.menOf(x);
    }

    private static void promise17Captures() {
        String[] rows = {"---h---", "---g---", "-hg-g--", "-------", "---h---", "---k---", "-------"};
        SurroundedKing x = Checks.boardOf("f", true, rows);
        checks.same("two at once, a third one with nobody beyond", behind(x, 31, 17),
                "2 ---h---" + "-------" + "-h-hg--" + "-------" + "-------" + "---k---" + "-------");
        SurroundedKing more = Checks.boardOf("f", true, rows);
        more.put(19, 'h');
        checks.same("three at once", behind(more, 31, 17),
                "3 ---h---" + "-------" + "-h-h-h-" + "-------" + "-------" + "---k---" + "-------");
        SurroundedKing safe = Checks.boardOf("", false, "-----", "h-h--", "----k", "-g---", "-----");
        checks.same("who goes between two is not taken", behind(safe, 16, 6),
                "0 -----" + "hgh--" + "----k" + "-----" + "-----");
        checks.same("nor later, by a move elsewhere", behind(safe, 5, 0),
                "0 h----" + "-gh--" + "----k" + "-----" + "-----");
        SurroundedKing beside = Checks.boardOf("", true, "-----", "hgh--", "-----", "h---k", "-----");
        checks.same("nor by one next to him aslant of them", behind(beside, 15, 16) + " " + beside.at(6),
                "0 -----" + "hgh--" + "-----" + "-h--k" + "----- g");
        SurroundedKing edge = Checks.boardOf("", true, "g-h--", "-----", "--k--", "-----", "-----");
        checks.same("nobody beyond the edge", behind(edge, 2, 1), "0 gh---" + "-----" + "--k--" + "-----" + "-----");
        SurroundedKing row = Checks.boardOf("", true, "-----", "---hg", "h----", "--k--", "-----");
        checks.same("rows do not go on in the next", behind(row, 8, 7) + " " + behind(row, 17, 22) + " "
                + behind(row, 7, 8), "0 -----" + "--h-g" + "h----" + "--k--" + "----- "
                + "0 -----" + "--h-g" + "h----" + "-----" + "--k-- "
                + "0 -----" + "---hg" + "h----" + "-----" + "--k--");
    }

    private static void promise17CapturesOfHunters() {
        SurroundedKing x = Checks.boardOf("", false, "-----", "--k--", "--h--", "g----", "----h");
        checks.same("a guard and the king", behind(x, 15, 17), "1 -----" + "--k--" + "-----" + "--g--" + "----h");
        SurroundedKing w = Checks.boardOf("w", false, "-----", "--k--", "--h--", "g----", "----h");
        checks.same("a king without arms does not help", behind(w, 15, 17),
                "0 -----" + "--k--" + "--h--" + "--g--" + "----h");
        SurroundedKing king = Checks.boardOf("", false, "-----", "k----", "--h--", "--g--", "----h");
        checks.same("the king takes", behind(king, 5, 7), "1 -----" + "--k--" + "-----" + "--g--" + "----h");
        SurroundedKing unarmed = Checks.boardOf("w", false, "-----", "k----", "--h--", "--g--", "----h");
        checks.same("a king without arms takes nobody", behind(unarmed, 5, 7),
                "0 -----" + "--k--" + "--h--" + "--g--" + "----h");
        SurroundedKing both = Checks.boardOf("w", false, "-----", "g-hg-", "----k", "-----", "----h");
        checks.same("guards take with w", behind(both, 5, 6), "1 -----" + "-g-g-" + "----k" + "-----" + "----h");
    }

    private static void promise17HostilePlaces() {
        String[] throne = {"-----", "h----", "-g---", "----k", "-----"};
        checks.same("a guard by the empty throne", behind(Checks.boardOf("t", true, throne), 5, 10),
                "1 -----" + "-----" + "h----" + "----k" + "-----");
        checks.same("not without t", behind(Checks.boardOf("c", true, throne), 5, 10),
                "0 -----" + "-----" + "hg---" + "----k" + "-----");
        SurroundedKing full = Checks.boardOf("t", true, "-----", "h----", "-gk--", "-----", "-----");
        checks.same("not by the king on the throne", behind(full, 5, 10),
                "0 -----" + "-----" + "hgk--" + "-----" + "-----");
        SurroundedKing hunter = Checks.boardOf("t", false, "---g-", "--h--", "-----", "----k", "h----");
        checks.same("a hunter by the empty throne", behind(hunter, 3, 2),
                "1 --g--" + "-----" + "-----" + "----k" + "h----");
        SurroundedKing king = Checks.boardOf("t", false, "-----", "----k", "---h-", "-----", "h----");
        checks.same("a hunter by the king and the empty throne", behind(king, 9, 14),
                "1 -----" + "-----" + "----k" + "-----" + "h----");
        String[] corner = {"-g---", "--h--", "--k--", "-----", "-----"};
        checks.same("a guard by an empty corner", behind(Checks.boardOf("c", true, corner), 7, 2),
                "1 --h--" + "-----" + "--k--" + "-----" + "-----");
        checks.same("not without c", behind(Checks.boardOf("t", true, corner), 7, 2),
                "0 -gh--" + "-----" + "--k--" + "-----" + "-----");
        SurroundedKing last = Checks.boardOf("c", false, "h----", "-----", "----k", "--g--", "---h-");
        checks.same("a hunter by the last corner", behind(last, 17, 22),
                "1 h----" + "-----" + "----k" + "-----" + "--g--");
        SurroundedKing held = Checks.boardOf("c", true, "gg---", "--h--", "--k--", "-----", "-----");
        checks.same("not by a corner with a guard", behind(held, 7, 2),
                "0 ggh--" + "-----" + "--k--" + "-----" + "-----");
    }

    private static void promise17KingByTwo() {
        String[] rows = {"-----", "---h-", "-hk--", "-----", "-----"};
        SurroundedKing x = Checks.boardOf("", true, rows);
        checks.same("the king by two", behind(x, 8, 13), "1 -----" + "-----" + "-h-h-" + "-----" + "-----");
        checks.same("hunters win", x.winner(), 'h');
        checks.same("not by two with f", behind(Checks.boardOf("f", true, rows), 8, 13),
                "0 -----" + "-----" + "-hkh-" + "-----" + "-----");
        SurroundedKing t = Checks.boardOf("t", true, "---h-", "--k--", "-----", "-----", "-----");
        checks.same("by the empty throne", behind(t, 3, 2), "1 --h--" + "-----" + "-----" + "-----" + "-----");
        SurroundedKing c = Checks.boardOf("c", true, "-k---", "--h--", "-----", "-----", "-----");
        checks.same("by an empty corner", behind(c, 7, 2), "1 --h--" + "-----" + "-----" + "-----" + "-----");
        SurroundedKing edge = Checks.boardOf("", true, "--k--", "----h", "-----", "-----", "-----");
        checks.same("nothing beyond the edge", behind(edge, 9, 7), "0 --k--" + "--h--" + "-----" + "-----" + "-----");
        SurroundedKing two = Checks.boardOf("", true, "--h--", "--g--", "h----", "--k--", "--h--");
        checks.same("the king and a guard at once", behind(two, 10, 12),
                "2 --h--" + "-----" + "--h--" + "-----" + "--h--");
        SurroundedKing goes = Checks.boardOf("", false, "-----", "-h-h-", "--k--", "-----", "-----");
        checks.same("who goes between two stays", behind(goes, 12, 7),
                "0 -----" + "-hkh-" + "-----" + "-----" + "-----");
        checks.same("the game goes on", goes.winner(), '-');
    }

    private static void promise17KingByFour() {
        SurroundedKing x = Checks.boardOf("f", true, "-----", "h----", "-hkh-", "--h--", "-----");
        checks.same("the king by four", behind(x, 5, 7), "1 -----" + "--h--" + "-h-h-" + "--h--" + "-----");
        checks.same("hunters win", x.winner(), 'h');
        SurroundedKing three = Checks.boardOf("f", true, "-----", "h----", "-hkh-", "-----", "-----");
        checks.same("not by three", behind(three, 5, 7), "0 -----" + "--h--" + "-hkh-" + "-----" + "-----");
        SurroundedKing edge = Checks.boardOf("ft", true, "-hkh-", "h----", "-----", "-----", "-----");
        checks.same("not at the edge", behind(edge, 5, 7), "0 -hkh-" + "--h--" + "-----" + "-----" + "-----");
        String[] throne = {"----h", "-hkh-", "-----", "-----", "-----"};
        checks.same("by the empty throne", behind(Checks.boardOf("ft", true, throne), 4, 2),
                "1 --h--" + "-h-h-" + "-----" + "-----" + "-----");
        checks.same("not without t", behind(Checks.boardOf("f", true, throne), 4, 2),
                "0 --h--" + "-hkh-" + "-----" + "-----" + "-----");
        SurroundedKing full = Checks.boardOf("ft", true, "----h", "-hkh-", "--g--", "-----", "-----");
        checks.same("not with a guard on the throne", behind(full, 4, 2),
                "0 --h--" + "-hkh-" + "--g--" + "-----" + "-----");
        SurroundedKing far = Checks.boardOf("f", true, "--g--", "--h--", "-hkh-", "--h--", "h----");
        checks.same("not behind a move of another one", behind(far, 20, 21),
                "0 --g--" + "--h--" + "-hkh-" + "--h--" + "-h---");
        checks.same("guards go on", far.winner(), '-');
        SurroundedKing both = Checks.boardOf("f", true, "-------", "---h---", "--hkh--", "h------", "---g---",
                "---h---", "-------");
        checks.same("by four, and a guard by two at once", behind(both, 21, 24),
                "2 -------" + "---h---" + "--h-h--" + "---h---" + "-------" + "---h---" + "-------");
    }

    private static void promise17Exceptions() {
        SurroundedKing x = Checks.boardOf("", true, "h--", "-k-", "--g");
        for (int place : new int[] {-1, 9, Integer.MIN_VALUE, Integer.MAX_VALUE}) {
            checks.thrown(x, "move(" + place + ", 1)", NO_PLACE, () -> x.move(place, 1));
            checks.thrown(x, "move(0, " + place + ")", NO_PLACE, () -> x.move(0, place));
        }
        int[][] wrong = {{0, 0}, {0, 4}, {0, 8}, {0, 5}, {4, 5}, {8, 7}, {1, 2}};
        for (int[] move : wrong) {
            checks.thrown(x, "move(" + move[0] + ", " + move[1] + ")", CANNOT, () -> x.move(move[0], move[1]));
        }
        SurroundedKing over = new SurroundedKing();
        checks.thrown(over, "move of a game that is over", OVER, () -> over.move(12, 13));
        checks.thrown(over, "move of nobody", OVER, () -> over.move(0, 1));
        checks.thrown(over, "move to no place", NO_PLACE, () -> over.move(0, 25));
    }

    private static void promise18KingAway() {
        SurroundedKing e = Checks.boardOf("e", false, "-----", "-----", "--k--", "-----", "h----");
        e.move(12, 2);
        checks.same("at the edge with e", e.winner(), 'g');
        SurroundedKing corner = Checks.boardOf("e", false, "----k", "-----", "-----", "-----", "h----");
        corner.move(4, 0);
        checks.same("at a corner with e", corner.winner(), 'g');
        SurroundedKing off = Checks.boardOf("", false, "-----", "-----", "--k--", "-----", "h----");
        off.move(12, 2);
        checks.same("not at the edge without e", off.winner(), '-');
        off.move(20, 21);
        off.move(2, 4);
        checks.same("at a corner without e", off.winner(), 'g');
        SurroundedKing stays = Checks.boardOf("e", false, "k-g--", "-----", "-----", "-----", "h----");
        stays.move(2, 3);
        checks.same("not as a guard moved", stays.winner(), '-');
        stays.move(20, 21);
        checks.same("not as a hunter moved", stays.winner(), '-');
        stays.move(0, 5);
        checks.same("as he moves along the edge", stays.winner(), 'g');
        SurroundedKing guard = Checks.boardOf("e", false, "-----", "-g---", "--k--", "-----", "h----");
        guard.move(6, 1);
        checks.same("not a guard at the edge", guard.winner(), '-');
    }

    private static void promise18NoHunter() {
        SurroundedKing x = Checks.boardOf("", false, "-----", "--k--", "--h--", "g----", "-----");
        x.move(15, 17);
        checks.same("no hunter is left", x.winner(), 'g');
        SurroundedKing both = new SurroundedKing();
        both.put(3, 'h');
        checks.same("one is left", both.winner(), '-');
        both.put(3, '-');
        checks.same("none is left as a game begins", both.winner(), 'g');
    }

    private static void promise18Surrounding() {
        String[] rows = {"-------", "--hhh--", "-h---h-", "-h-k-h-", "-h---h-", "--hhh--", "------h"};
        SurroundedKing x = Checks.boardOf("fn", true, rows);
        checks.same("not looked at as a game begins", x.surrounds() + " " + x.winner(), "true -");
        x.move(48, 47);
        checks.same("behind any move of theirs", x.winner(), 'h');
        SurroundedKing off = Checks.boardOf("f", true, rows);
        off.move(48, 47);
        checks.same("not without n", off.surrounds() + " " + off.winner(), "true -");
        SurroundedKing outside = Checks.boardOf("fn", true, rows);
        outside.put(8, 'g');
        outside.move(48, 47);
        checks.same("not with a guard outside", outside.surrounds() + " " + outside.winner(), "false -");
        SurroundedKing theirs = Checks.boardOf("fn", false, rows);
        theirs.move(24, 23);
        checks.same("not behind a move of guards", theirs.surrounds() + " " + theirs.winner(), "true -");
        theirs.move(48, 41);
        checks.same("behind the next of hunters", theirs.winner(), 'h');
        SurroundedKing gap = Checks.boardOf("fn", true, rows);
        gap.move(15, 14);
        checks.same("a gap", gap.surrounds() + " " + gap.winner(), "false -");
        gap.undo();
        gap.put(22, 'g');
        gap.put(21, 'h');
        gap.move(48, 47);
        checks.same("a guard in the ring with a hunter ahead", gap.surrounds() + " " + gap.winner(), "true h");
    }

    private static void promise18Stuck() {
        SurroundedKing x = Checks.boardOf("f", true, "kh---", "---h-", "-----", "-----", "-----");
        x.move(8, 5);
        checks.same("guards that cannot move lose", x.winner(), 'h');
        x.undo();
        checks.same("taken back", x.winner(), '-');
        x.put(24, 'g');
        x.move(8, 5);
        checks.same("a guard can move", x.winner(), '-');
        SurroundedKing y = Checks.boardOf("", false, "h---g", "-----", "k----", "-----", "-----");
        y.move(4, 1);
        checks.same("hunters can move", y.winner(), '-');
        y.undo();
        y.put(5, 'g');
        y.move(4, 1);
        checks.same("hunters that cannot move lose", y.winner(), 'g');
        SurroundedKing p = Checks.boardOf("pl", true, "-hg--", "-g---", "-----", "--k--", "-----");
        checks.same("a corner alone is no way with p", p.winner(), 'g');
        p.rule('p', false);
        checks.same("it is one without p", p.winner(), '-');
        SurroundedKing over = Checks.boardOf("p", true, "--k--", "---g-", "---hg", "---g-", "-----");
        checks.same("over the throne alone is a way", over.winner() + " " + movesOf(over, 25), "- 13-10 13-11");
        over.rule('l', true);
        checks.same("it is none with l", over.winner(), 'g');
    }

    private static void promise18And20Repetition() {
        SurroundedKing x = Checks.boardOf("", true, "h----", "-----", "--k--", "-----", "-----");
        int[][] round = {{0, 1}, {12, 13}, {1, 0}, {13, 12}};
        int[] due = {1, 1, 1, 2, 2, 2, 2, 3};
        checks.same("repeats at first", x.repeats(), 1);
        for (int i = 0; i < 8; i++) {
            checks.same("the game goes on", x.winner(), '-');
            x.move(round[i % 4][0], round[i % 4][1]);
            checks.same("repeats behind " + i, x.repeats(), due[i]);
        }
        checks.same("the third time is lost for guards", x.winner(), 'h');
        checks.same("kept", x.kept('h'), 1);
        checks.same("the men are there", x.king(), 12);
        checks.same("undo", x.undo() + " " + x.winner() + " " + x.repeats(), "7 - 2");
        x.move(13, 8);
        checks.same("a new position", x.repeats() + " " + x.winner(), "1 -");
        x.undo();
        x.undo();
        x.undo();
        x.undo();
        checks.same("counts go back", x.countMade() + " " + x.repeats(), "4 2");
        x.begin(true);
        checks.same("counted from the beginning", x.repeats(), 1);
        SurroundedKing y = Checks.boardOf("", false, "h----", "-----", "--k--", "-----", "-----");
        int[][] other = {{12, 13}, {0, 1}, {13, 12}, {1, 0}};
        for (int i = 0; i < 8; i++) {
            y.move(other[i % 4][0], other[i % 4][1]);
        }
        checks.same("the third time is lost for hunters", y.winner(), 'g');
        checks.same("the turn is of the position", y.isTurn() + " " + y.repeats(), "false 3");
        y.begin(true);
        checks.same("another turn is another position", y.repeats(), 1);
    }

    /** Seven places of a hunter and eight of the king come together only each 56 rounds. */
    private static void promise18And19TwoHundred() {
        SurroundedKing x = new SurroundedKing();
        x.board(7);
        x.put(0, 'h');
        x.put(16, 'k');
        int[] ring = {16, 17, 18, 25, 32, 31, 30, 23};
        for (int i = 0; i < 100; i++) {
            checks.same("made", x.countMade() + " " + x.winner(), 2 * i + " -");
            x.move(i % 7, (i + 1) % 7);
            x.move(ring[i % 8], ring[(i + 1) % 8]);
        }
        checks.same("behind 200 moves", x.countMade() + " " + x.winner() + " " + x.repeats(), "200 = 2");
        checks.same("worth of nobody's game", x.worth() + " " + x.search(1) + " " + x.search(2), "0 0 0");
        checks.same("kept", x.kept('=') + " " + x.kept('-') + " " + x.balanceBits(), "1 1 " + 0x3f000000);
        checks.thrown(x, "move of a game that is over", OVER, () -> x.move(2, 3));
        checks.same("countMoves", x.countMoves() + " " + x.play(5), "0 0");
        checks.same("isSound", x.isSound(), true);
        checks.same("undo", x.undo() + " " + x.winner(), "199 -");
        x.move(25, 24);
        checks.same("again", x.countMade() + " " + x.winner() + " " + x.kept('='), "200 = 1");
        x.undo();
        x.undo();
        x.move(1, 2);
        checks.same("behind 199", x.countMade() + " " + x.winner(), "199 -");
        x.begin(true);
        checks.same("another game", x.countMade() + " " + x.winner(), "0 -");
    }

    private static void promise19And21CountAndUndo() {
        SurroundedKing x = Checks.boardOf("", true, "-----", "hg-h-", "--k--", "-----", "-----");
        checks.thrown(x, "undo of nothing", NONE, () -> x.undo());
        String first = Checks.menOf(x);
        checks.same("made at first", x.countMade(), 0);
        checks.same("takes a guard", x.move(8, 7), 1);
        checks.same("made then", x.countMade(), 1);
        x.move(12, 13);
        checks.same("made two", x.countMade(), 2);
        checks.same("undo", x.undo(), 1);
        checks.same("the king is back", x.king(), 12);
        checks.same("undo again", x.undo(), 0);
        checks.same("the guard is back", Checks.menOf(x), first);
        checks.same("the turn is back", x.isTurn(), true);
        checks.thrown(x, "undo of nothing again", NONE, () -> x.undo());
        x.move(8, 7);
        x.rule('n', false);
        checks.thrown(x, "undo over a beginning", NONE, () -> x.undo());
        SurroundedKing y = Checks.boardOf("", true, "-----", "---h-", "-hk--", "-----", "-----");
        y.move(8, 13);
        checks.same("a king is taken back", y.undo() + " " + y.king() + " " + y.winner() + " " + y.isTurn(),
                "0 12 - true");
    }
}
