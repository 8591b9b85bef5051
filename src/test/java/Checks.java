import java.util.concurrent.Callable;
import java.util.function.Supplier;

/** Counts answers that are not as due, and tells them. */
final class Checks {
    private static final int MOST_TOLD = 40;
    private int made;
    private int wrong;

    /** A call, to be made on an object that is told then. */
    interface Call {
        Object on(SurroundedKing x) throws Exception;
    }

    void same(String call, Object got, Object due) {
        made++;
        if (!String.valueOf(got).equals(String.valueOf(due))) {
            wrong++;
            if (wrong <= MOST_TOLD) {
                System.out.println(call + " answered " + got + ", due is " + due);
            }
        }
    }

    /** The call throws an exception of just this class, and nothing that can be seen changes. */
    void thrown(SurroundedKing x, String call, Class<? extends Exception> due, Callable<?> action) {
        String before = stateOf(x);
        String got;
        try {
            got = String.valueOf(action.call());
        } catch (Exception e) {
            got = e.getClass().getName();
        }
        same(call, got, due.getName());
        same(call + " changes nothing", stateOf(x), before);
    }

    /**
     * The call throws an exception of just this class, and behind it all that can be asked, taken back
     * and told again is as with a like object that was not asked.
     */
    void refused(String call, Class<? extends Exception> due, Supplier<SurroundedKing> maker, Call action) {
        SurroundedKing asked = maker.get();
        SurroundedKing left = maker.get();
        String got;
        try {
            got = String.valueOf(action.on(asked));
        } catch (Exception e) {
            got = e.getClass().getName();
        }
        same(call, got, due.getName());
        same(call + " changes nothing", stateOf(asked), stateOf(left));
        same(call + " changes nothing that comes out later", laterOf(asked), laterOf(left));
    }

    /** The call is answered as is due, on an object that is made for it. */
    void allowed(String call, Supplier<SurroundedKing> maker, Call action, Object due) {
        String got;
        try {
            got = String.valueOf(action.on(maker.get()));
        } catch (Exception e) {
            got = e.getClass().getName();
        }
        same(call, got, due);
    }

    /** What comes out only as something is told: all moves taken back, z, what is known, ties, games kept. */
    private static String laterOf(SurroundedKing x) {
        StringBuilder text = new StringBuilder();
        while (x.countMade() > 0) {
            text.append(x.undo()).append(x.checksum()).append(x.repeats()).append(x.isTurn()).append(x.winner());
        }
        text.append(" z ").append(x.seed(1)).append(" known ");
        for (char rule : "ewftcpln".toCharArray()) {
            text.append(x.know(rule, '?'));
        }
        text.append(" ties ").append(x.untie()).append(" all ").append(x.countAgreeing()).append(" kept ");
        for (int size : new int[] {3, 5, 7}) {
            x.board(size);
            text.append(x.kept('g')).append(x.kept('h')).append(x.kept('='));
        }
        return text.toString();
    }

    /** All that can be asked without telling anything, as one text. */
    static String stateOf(SurroundedKing x) {
        StringBuilder text = new StringBuilder();
        text.append(x.rules()).append(' ').append(x.king()).append(' ').append(x.isTurn()).append(' ');
        text.append(x.surrounds()).append(' ').append(x.winner()).append(' ').append(x.countMade()).append(' ');
        text.append(x.repeats()).append(' ').append(x.worth()).append(' ').append(x.checksum()).append(' ');
        text.append(x.kept('g')).append(x.kept('h')).append(x.kept('=')).append(' ');
        int moves = x.countMoves();
        for (int i = 0; i < moves; i++) {
            text.append(x.moveAt(i)).append(' ');
        }
        int agreeing = x.countAgreeing();
        text.append(agreeing).append(' ');
        for (int i = 0; i < agreeing; i += 1 + agreeing / 8) {
            text.append(x.agreeing(i)).append(' ');
        }
        for (int place = 0; has(x, place); place++) {
            text.append(x.at(place)).append(x.found(place));
        }
        for (int record = 0; hasRecord(x, record); record++) {
            text.append(' ').append(x.middle(record, record, record)).append('<').append(x.parent(record));
        }
        return text.toString();
    }

    private static boolean has(SurroundedKing x, int place) {
        try {
            x.at(place);
            return true;
        } catch (IndexOutOfBoundsException e) {
            return false;
        }
    }

    private static boolean hasRecord(SurroundedKing x, int record) {
        try {
            x.parent(record);
            return true;
        } catch (IndexOutOfBoundsException e) {
            return false;
        }
    }

    /** A new object with men told row by row, with the king among them, and with rules and the turn. */
    static SurroundedKing boardOf(String rules, boolean isHunters, String... rows) {
        SurroundedKing x = new SurroundedKing();
        x.board(rows.length);
        String men = String.join("", rows);
        if (x.king() != men.indexOf('k')) {
            x.put(men.indexOf('k'), 'k');
        }
        for (int place = 0; place < men.length(); place++) {
            if (men.charAt(place) != 'k' && men.charAt(place) != '-') {
                x.put(place, men.charAt(place));
            }
        }
        for (char rule : rules.toCharArray()) {
            x.rule(rule, true);
        }
        x.begin(isHunters);
        return x;
    }

    /** Makes moves that are told as "16-9 9-16", and returns how many men are taken by the last of them. */
    static int go(SurroundedKing x, String moves) {
        int taken = 0;
        for (String move : moves.trim().split(" +")) {
            int dash = move.indexOf('-');
            taken = x.move(Integer.parseInt(move.substring(0, dash)), Integer.parseInt(move.substring(dash + 1)));
        }
        return taken;
    }

    /** The men of a board, row by row. */
    static String menOf(SurroundedKing x) {
        StringBuilder men = new StringBuilder();
        for (int place = 0; has(x, place); place++) {
            men.append(x.at(place));
        }
        return men.toString();
    }

    boolean isClean() {
        return wrong == 0;
    }

    void end() {
        System.out.println(made + " answers, " + wrong + " not as due");
        if (wrong > 0) {
            System.exit(1);
        }
    }
}
