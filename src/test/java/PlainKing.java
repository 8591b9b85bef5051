import java.util.ArrayList;
import java.util.Arrays;
import java.util.HashMap;
import java.util.HashSet;
import java.util.LinkedHashMap;
import java.util.List;
import java.util.Map;
import java.util.NoSuchElementException;
import java.util.Set;

/** The document once more, in its plainest form, with no regard to speed or room: texts, lists and maps. */
final class PlainKing {
    private static final int[][] WAYS = {{-1, 0}, {0, -1}, {0, 1}, {1, 0}};

    private int n;
    private char[] men;
    private boolean hunters = true;
    private final Map<Character, Boolean> on = new LinkedHashMap<>();
    private List<String> came = new ArrayList<>();
    private char winner;
    private boolean overByCount;
    private boolean kept;
    private int z = 1;
    private final List<String> games = new ArrayList<>();
    private final Map<Character, Character> known = new HashMap<>();
    private final List<Object[]> ties = new ArrayList<>();
    private char[] find;
    private final List<int[]> records = new ArrayList<>();

    PlainKing() {
        for (char rule : "ewftcpln".toCharArray()) {
            on.put(rule, false);
            known.put(rule, '?');
        }
        newBoard(5);
    }

    private void newBoard(int size) {
        n = size;
        men = new char[n * n];
        Arrays.fill(men, '-');
        men[n * n / 2] = 'k';
        find = new char[n * n];
        Arrays.fill(find, '?');
        hunters = true;
        start();
    }

    int board(int size) {
        if (size != 3 && size != 5 && size != 7) {
            throw new IllegalArgumentException();
        }
        int old = n;
        newBoard(size);
        return old;
    }

    boolean rule(char rule, boolean isOn) {
        checkRule(rule);
        boolean old = on.put(rule, isOn);
        start();
        return old;
    }

    int rules() {
        int sum = 0;
        int bit = 1;
        for (boolean value : on.values()) {
            sum += value ? bit : 0;
            bit *= 2;
        }
        return sum;
    }

    int setRules(int rules) {
        if (rules < 0 || rules > 255) {
            throw new IllegalArgumentException();
        }
        int old = rules();
        int rest = rules;
        for (char rule : "ewftcpln".toCharArray()) {
            on.put(rule, rest % 2 == 1);
            rest /= 2;
        }
        start();
        return old;
    }

    char put(int place, char man) {
        checkPlace(place);
        if ("hgk-".indexOf(man) < 0) {
            throw new IllegalArgumentException();
        }
        char old = men[place];
        if (old == 'k') {
            throw new UnsupportedOperationException();
        }
        if (man == 'k' && king() >= 0) {
            men[king()] = '-';
        }
        men[place] = man;
        start();
        return old;
    }

    boolean begin(boolean isHunters) {
        boolean old = hunters;
        hunters = isHunters;
        start();
        return old;
    }

    char at(int place) {
        checkPlace(place);
        return men[place];
    }

    int king() {
        return new String(men).indexOf('k');
    }

    int count(char man) {
        if (man != 'h' && man != 'g') {
            throw new IllegalArgumentException();
        }
        return number(men, man);
    }

    boolean isTurn() {
        return hunters;
    }

    boolean isHostile(int place, char man) {
        checkPlace(place);
        if ("hgk".indexOf(man) < 0) {
            throw new IllegalArgumentException();
        }
        return hostile(men, place, man);
    }

    boolean surrounds() {
        return surrounded(men);
    }

    boolean canMove(int from, int to) {
        checkPlace(from);
        checkPlace(to);
        return winner == '-' && possible(men, hunters, from, to);
    }

    int countMoves() {
        return winner == '-' ? moves(men, hunters).size() : 0;
    }

    int moveAt(int index) {
        if (index < 0 || index >= countMoves()) {
            throw new NoSuchElementException();
        }
        return moves(men, hunters).get(index);
    }

    int move(int from, int to) {
        checkPlace(from);
        checkPlace(to);
        if (winner != '-') {
            throw new IllegalStateException();
        }
        if (!possible(men, hunters, from, to)) {
            throw new UnsupportedOperationException();
        }
        return go(from, to);
    }

    char winner() {
        return winner;
    }

    int countMade() {
        return came.size() - 1;
    }

    int repeats() {
        int times = 0;
        for (String position : came) {
            times += position.equals(key(men, hunters)) ? 1 : 0;
        }
        return times;
    }

    int undo() {
        if (countMade() == 0) {
            throw new NoSuchElementException();
        }
        came.remove(came.size() - 1);
        String last = came.get(came.size() - 1);
        men = last.substring(1).toCharArray();
        hunters = last.charAt(0) == 'H';
        winner = '-';
        overByCount = false;
        return countMade();
    }

    int worth() {
        return worthOf(men, winner);
    }

    int search(int depth) {
        if (depth < 1 || depth > 2) {
            throw new IllegalArgumentException();
        }
        return winner != '-' ? worth() : minimax(men, hunters, depth)[0];
    }

    int best(int depth) {
        if (depth < 1 || depth > 2) {
            throw new IllegalArgumentException();
        }
        if (winner != '-') {
            throw new IllegalStateException();
        }
        return minimax(men, hunters, depth)[1];
    }

    int play(int moves) {
        if (moves < 1 || moves > 60) {
            throw new IllegalArgumentException();
        }
        int played = 0;
        while (winner == '-' && played < moves) {
            z = (int) ((long) z * 48271 % 2147483647);
            int code = best(1);
            if (z % 4 == 0) {
                List<Integer> all = moves(men, hunters);
                code = all.get(z / 4 % all.size());
            }
            go(code / 100, code % 100);
            played++;
        }
        return played;
    }

    int seed(int newZ) {
        if (newZ < 1 || newZ > 2147483646) {
            throw new IllegalArgumentException();
        }
        int old = z;
        z = newZ;
        return old;
    }

    int countPositions() {
        return graph().size();
    }

    char solve() {
        Map<String, List<String>> graph = graph();
        if (isSettled()) {
            return winner;
        }
        return valuesOf(graph).get(key(men, hunters));
    }

    int kept(char who) {
        if ("gh=-".indexOf(who) < 0) {
            throw new IllegalArgumentException();
        }
        int counted = 0;
        for (String game : games) {
            String own = rules() + "/" + n + "/";
            counted += who == '-' ? (game.startsWith(own) ? 1 : 0) : (game.equals(own + who) ? 1 : 0);
        }
        return counted;
    }

    int balanceBits() {
        if (kept('-') == 0) {
            throw new ArithmeticException();
        }
        return Float.floatToRawIntBits(((float) kept('g') + (float) kept('=') / 2f) / (float) kept('-'));
    }

    char know(char rule, char what) {
        checkRule(rule);
        if ("10?".indexOf(what) < 0) {
            throw new IllegalArgumentException();
        }
        return known.put(rule, what);
    }

    int tie(char rule, boolean isOn, char other, boolean isOther) {
        checkRule(rule);
        checkRule(other);
        if (rule == other) {
            throw new IllegalArgumentException();
        }
        if (ties.size() == 8) {
            throw new IllegalStateException();
        }
        ties.add(new Object[] {rule, isOn, other, isOther});
        return ties.size();
    }

    int untie() {
        int old = ties.size();
        ties.clear();
        return old;
    }

    int countAgreeing() {
        return agreeingOnes().size();
    }

    int agreeing(int index) {
        if (index < 0 || index >= countAgreeing()) {
            throw new NoSuchElementException();
        }
        return agreeingOnes().get(index);
    }

    char find(int place, char mark) {
        checkPlace(place);
        if ("10?".indexOf(mark) < 0) {
            throw new IllegalArgumentException();
        }
        char old = find[place];
        find[place] = mark;
        return old;
    }

    int complete(char symmetry) {
        if ("hvdr".indexOf(symmetry) < 0) {
            throw new IllegalArgumentException();
        }
        char[] whole = find.clone();
        for (int place = 0; place < n * n; place++) {
            int r = place / n;
            int c = place % n;
            int image = symmetry == 'h' ? r * n + n - 1 - c
                    : symmetry == 'v' ? (n - 1 - r) * n + c
                    : symmetry == 'd' ? c * n + r : n * n - 1 - place;
            if (find[place] == '?') {
                whole[place] = find[image];
            } else if (find[image] != '?' && find[image] != find[place]) {
                throw new UnsupportedOperationException();
            }
        }
        find = whole;
        return number(find, '?');
    }

    char found(int place) {
        checkPlace(place);
        return find[place];
    }

    int record(int rules, int year) {
        if (rules < 0 || rules > 255 || year < 0 || year > 2000) {
            throw new IllegalArgumentException();
        }
        if (records.size() == 10) {
            throw new IllegalStateException();
        }
        records.add(new int[] {rules, year});
        return records.size() - 1;
    }

    int parent(int record) {
        checkRecord(record);
        List<int[]> older = new ArrayList<>();
        for (int other = 0; other < records.size(); other++) {
            if (records.get(other)[1] < records.get(record)[1]) {
                older.add(new int[] {unlike(record, other), -records.get(other)[1], other});
            }
        }
        older.sort((a, b) -> Arrays.compare(a, b));
        return older.isEmpty() ? -1 : older.get(0)[2];
    }

    int unlike(int record, int other) {
        checkRecord(record);
        checkRecord(other);
        int unlike = 0;
        for (int bit = 1; bit < 256; bit *= 2) {
            unlike += (records.get(record)[0] & bit) == (records.get(other)[0] & bit) ? 0 : 1;
        }
        return unlike;
    }

    int middle(int one, int other, int third) {
        checkRecord(one);
        checkRecord(other);
        checkRecord(third);
        int middle = 0;
        for (int bit = 1; bit < 256; bit *= 2) {
            int votes = 0;
            for (int record : new int[] {one, other, third}) {
                votes += (records.get(record)[0] & bit) != 0 ? 1 : 0;
            }
            middle += votes >= 2 ? bit : 0;
        }
        return middle;
    }

    double meanOn() {
        if (records.isEmpty()) {
            throw new ArithmeticException();
        }
        int sum = 0;
        for (int[] record : records) {
            sum += Integer.bitCount(record[0]);
        }
        return (double) sum / (double) records.size();
    }

    long checksum() {
        long sum = 7;
        for (char man : men) {
            sum = sum * 31 + man;
        }
        sum = sum * 31 + rules();
        sum = sum * 31 + countMade();
        return sum * 31 + z;
    }

    boolean isSound() {
        return true;
    }

    private void checkPlace(int place) {
        if (place < 0 || place >= n * n) {
            throw new IndexOutOfBoundsException();
        }
    }

    private void checkRule(char rule) {
        if (!on.containsKey(rule)) {
            throw new IllegalArgumentException();
        }
    }

    private void checkRecord(int record) {
        if (record < 0 || record >= records.size()) {
            throw new IndexOutOfBoundsException();
        }
    }

    private static int number(char[] signs, char sign) {
        int number = 0;
        for (char each : signs) {
            number += each == sign ? 1 : 0;
        }
        return number;
    }

    private static String key(char[] men, boolean hunters) {
        return (hunters ? "H" : "G") + new String(men);
    }

    private boolean isThrone(int place) {
        return place == n * n / 2;
    }

    private boolean isCorner(int place) {
        return place == 0 || place == n - 1 || place == n * n - n || place == n * n - 1;
    }

    private boolean isEdge(int place) {
        return place / n == 0 || place / n == n - 1 || place % n == 0 || place % n == n - 1;
    }

    /** The place so many steps along a way, -1 beyond the edge. */
    private int beside(int place, int[] way, int steps) {
        int r = place / n + way[0] * steps;
        int c = place % n + way[1] * steps;
        return r < 0 || r >= n || c < 0 || c >= n ? -1 : r * n + c;
    }

    private boolean hostile(char[] board, int place, char man) {
        char who = board[place];
        if (who == '-') {
            return isThrone(place) && on.get('t') || isCorner(place) && on.get('c');
        }
        if (man == 'h') {
            return who == 'g' || who == 'k' && !on.get('w');
        }
        return who == 'h';
    }

    private boolean possible(char[] board, boolean huntersTurn, int from, int to) {
        char man = board[from];
        if (man == '-' || (man == 'h') != huntersTurn || from == to) {
            return false;
        }
        if (on.get('p') && man != 'k' && (isThrone(to) || isCorner(to))) {
            return false;
        }
        for (int[] way : WAYS) {
            for (int steps = 1; steps < n; steps++) {
                int place = beside(from, way, steps);
                if (place < 0 || board[place] != '-' || on.get('l') && steps > 1) {
                    break;
                }
                if (place == to) {
                    return true;
                }
            }
        }
        return false;
    }

    private List<Integer> moves(char[] board, boolean huntersTurn) {
        List<Integer> moves = new ArrayList<>();
        for (int from = 0; from < n * n; from++) {
            if (board[from] != '-' && (board[from] == 'h') == huntersTurn) {
                for (int to = 0; to < n * n; to++) {
                    if (possible(board, huntersTurn, from, to)) {
                        moves.add(100 * from + to);
                    }
                }
            }
        }
        return moves;
    }

    /** The men behind a move. */
    private char[] behind(char[] before, int from, int to) {
        char[] board = before.clone();
        char mover = board[from];
        board[from] = '-';
        board[to] = mover;
        char[] left = board.clone();
        if (mover == 'k' && on.get('w')) {
            return left;
        }
        for (int[] way : WAYS) {
            int next = beside(to, way, 1);
            int beyond = beside(to, way, 2);
            if (next < 0 || board[next] == '-' || (board[next] == 'h') == (mover == 'h')) {
                continue;
            }
            if (board[next] == 'k' && on.get('f')) {
                left[next] = heldByFour(board, next) ? '-' : 'k';
            } else if (beyond >= 0 && hostile(board, beyond, board[next])) {
                left[next] = '-';
            }
        }
        return left;
    }

    private boolean heldByFour(char[] board, int king) {
        for (int[] way : WAYS) {
            int place = beside(king, way, 1);
            if (place < 0) {
                return false;
            }
            boolean isThroneHostile = isThrone(place) && board[place] == '-' && on.get('t');
            if (board[place] != 'h' && !isThroneHostile) {
                return false;
            }
        }
        return true;
    }

    private boolean surrounded(char[] board) {
        if (new String(board).indexOf('k') < 0) {
            return false;
        }
        for (int place = 0; place < n * n; place++) {
            if ((board[place] == 'k' || board[place] == 'g') && leadsOut(board, place, new HashSet<>())) {
                return false;
            }
        }
        return true;
    }

    private boolean leadsOut(char[] board, int place, Set<Integer> seen) {
        if (place < 0 || board[place] == 'h' || !seen.add(place)) {
            return false;
        }
        if (isEdge(place)) {
            return true;
        }
        for (int[] way : WAYS) {
            if (leadsOut(board, beside(place, way, 1), seen)) {
                return true;
            }
        }
        return false;
    }

    /** The end behind a move to a place, repetitions and 200 moves aside; the place is -1 as a game begins. */
    private char end(char[] board, boolean huntersTurn, int to) {
        int king = new String(board).indexOf('k');
        if (king < 0) {
            return 'h';
        }
        if (to >= 0 && to == king && (on.get('e') ? isEdge(king) : isCorner(king))) {
            return 'g';
        }
        if (number(board, 'h') == 0) {
            return 'g';
        }
        if (to >= 0 && !huntersTurn && on.get('n') && surrounded(board)) {
            return 'h';
        }
        if (moves(board, huntersTurn).isEmpty()) {
            return huntersTurn ? 'g' : 'h';
        }
        return '-';
    }

    private void start() {
        came = new ArrayList<>();
        came.add(key(men, hunters));
        kept = false;
        overByCount = false;
        winner = end(men, hunters, -1);
    }

    private int go(int from, int to) {
        int before = number(men, '-');
        men = behind(men, from, to);
        hunters = !hunters;
        came.add(key(men, hunters));
        winner = end(men, hunters, to);
        if (winner == '-') {
            if (repeats() == 3) {
                winner = hunters ? 'h' : 'g';
            } else if (countMade() == 200) {
                winner = '=';
            }
            overByCount = winner != '-';
        }
        if (winner != '-' && !kept) {
            kept = true;
            games.add(rules() + "/" + n + "/" + winner);
        }
        return number(men, '-') - before;
    }

    private int worthOf(char[] board, char won) {
        if (won != '-') {
            return won == 'g' ? 1000 : won == 'h' ? -1000 : 0;
        }
        int king = new String(board).indexOf('k');
        int ways = 0;
        for (int to = 0; to < n * n; to++) {
            ways += possible(board, false, king, to) ? 1 : 0;
        }
        return 10 * number(board, 'g') - 6 * number(board, 'h') + 2 * ways;
    }

    private int[] minimax(char[] board, boolean huntersTurn, int depth) {
        int[] best = null;
        for (int code : moves(board, huntersTurn)) {
            char[] next = behind(board, code / 100, code % 100);
            char won = end(next, !huntersTurn, code % 100);
            int worth = won != '-' || depth == 1 ? worthOf(next, won) : minimax(next, !huntersTurn, depth - 1)[0];
            if (best == null || (huntersTurn ? worth < best[0] : worth > best[0])) {
                best = new int[] {worth, code};
            }
        }
        return best;
    }

    private boolean isSettled() {
        return winner != '-' && !overByCount;
    }

    /** Each position that can come, with what its moves lead to: a position, or the letter of who has won so. */
    private Map<String, List<String>> graph() {
        Map<String, List<String>> graph = new LinkedHashMap<>();
        graph.put(key(men, hunters), null);
        List<String> open = new ArrayList<>();
        if (!isSettled()) {
            open.add(key(men, hunters));
        }
        while (!open.isEmpty()) {
            String position = open.remove(open.size() - 1);
            if (graph.get(position) != null) {
                continue;
            }
            List<String> next = new ArrayList<>();
            graph.put(position, next);
            char[] board = position.substring(1).toCharArray();
            boolean turn = position.charAt(0) == 'H';
            for (int code : moves(board, turn)) {
                char[] then = behind(board, code / 100, code % 100);
                char won = end(then, !turn, code % 100);
                graph.putIfAbsent(key(then, !turn), null);
                next.add(won == '-' ? key(then, !turn) : String.valueOf(won));
                if (won == '-') {
                    open.add(key(then, !turn));
                }
            }
            if (graph.size() > 400) {
                throw new ArithmeticException();
            }
        }
        return graph;
    }

    private static Map<String, Character> valuesOf(Map<String, List<String>> graph) {
        Map<String, Character> values = new HashMap<>();
        for (String position : graph.keySet()) {
            values.put(position, '=');
        }
        values.put("g", 'g');
        values.put("h", 'h');
        for (boolean changed = true; changed;) {
            changed = false;
            for (Map.Entry<String, List<String>> entry : graph.entrySet()) {
                if (entry.getValue() == null || values.get(entry.getKey()) != '=') {
                    continue;
                }
                char mine = entry.getKey().charAt(0) == 'H' ? 'h' : 'g';
                char value = mine == 'h' ? 'g' : 'h';
                for (String next : entry.getValue()) {
                    char reached = values.get(next);
                    value = reached == mine || value == mine ? mine : reached == '=' ? '=' : value;
                }
                if (value != '=') {
                    values.put(entry.getKey(), value);
                    changed = true;
                }
            }
        }
        return values;
    }

    private List<Integer> agreeingOnes() {
        List<Integer> ones = new ArrayList<>();
        for (int rules = 0; rules < 256; rules++) {
            boolean agrees = true;
            for (char rule : on.keySet()) {
                char what = known.get(rule);
                agrees &= what == '?' || (what == '1') == isOnIn(rules, rule);
            }
            for (Object[] tie : ties) {
                boolean binds = isOnIn(rules, (Character) tie[0]) == (Boolean) tie[1];
                agrees &= !binds || isOnIn(rules, (Character) tie[2]) == (Boolean) tie[3];
            }
            if (agrees) {
                ones.add(rules);
            }
        }
        return ones;
    }

    private static boolean isOnIn(int rules, char rule) {
        return (rules >> "ewftcpln".indexOf(rule)) % 2 == 1;
    }
}
