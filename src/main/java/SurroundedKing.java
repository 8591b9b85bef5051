import java.util.Arrays;
import java.util.NoSuchElementException;

/** Hunts on boards: a few men and a king against many, by rules that are letters. */
public final class SurroundedKing {

    private static final char NOBODY = '-';
    private static final char HUNTER = 'h';
    private static final char GUARD = 'g';
    private static final char KING = 'k';
    private static final char DRAWN = '=';
    private static final char ON = '1';
    private static final char OFF = '0';
    private static final char UNKNOWN = '?';

    /** The letters of the rules, each at the place of its bit. */
    private static final String RULES = "ewftcpln";
    private static final int RULE_EDGE = 1;
    private static final int RULE_UNARMED = 2;
    private static final int RULE_BY_FOUR = 4;
    private static final int RULE_THRONE = 8;
    private static final int RULE_CORNERS = 16;
    private static final int RULE_KINGS_PLACES = 32;
    private static final int RULE_ONE_PLACE = 64;
    private static final int RULE_SURROUND = 128;
    private static final int ALL_RULES = 255;

    private static final int FIRST_SIZE = 5;
    private static final int MOST_PLACES = 49;
    /** Each move goes to a free place, from the next man along one of four ways. */
    private static final int MOST_MOVES = 4 * MOST_PLACES;
    private static final int MOST_MADE = 200;
    private static final int MOST_REPEATS = 3;
    private static final int MOST_PLAYED = 60;
    private static final int MOST_DEPTH = 2;
    private static final int WON = 1000;

    private static final long DRAW_FACTOR = 48271L;
    private static final int DRAW_MODULUS = 2147483647;

    private static final int DIRECTIONS = 4;
    private static final int UP = 0;
    private static final int LEFT = 1;
    private static final int RIGHT = 2;

    private final Ground ground;
    private final Law law;
    private final Game game;
    private final Men thought;
    private final MoveList listed;
    private final Search searcher;
    private final Solver solver;
    private final Archive archive;
    private final Gaps gaps;
    private final Marks marks;
    private final Family family;
    private int z;

    public SurroundedKing() {
        ground = new Ground();
        law = new Law(ground);
        game = new Game(law);
        thought = new Men();
        listed = new MoveList();
        searcher = new Search(law);
        solver = new Solver(law);
        archive = new Archive();
        gaps = new Gaps();
        marks = new Marks();
        family = new Family();
        z = 1;
        takeBoard(FIRST_SIZE);
    }

    // ---- boards, rules, men

    public int board(int size) throws IllegalArgumentException {
        if (size != 3 && size != 5 && size != 7) {
            throw new IllegalArgumentException("no such size");
        }
        int before = ground.size;
        takeBoard(size);
        return before;
    }

    public boolean rule(char rule, boolean isOn) throws IllegalArgumentException {
        int bit = ruleBit(rule);
        boolean before = law.has(bit);
        law.rules = isOn ? law.rules | bit : law.rules & ~bit;
        game.start();
        return before;
    }

    public int rules() {
        return law.rules;
    }

    public int setRules(int rules) throws IllegalArgumentException {
        if (!isRuleset(rules)) {
            throw new IllegalArgumentException("no such ruleset");
        }
        int before = law.rules;
        law.rules = rules;
        game.start();
        return before;
    }

    public char put(int place, char man)
            throws IndexOutOfBoundsException, IllegalArgumentException, UnsupportedOperationException {
        checkPlace(place);
        if (man != NOBODY && !isMan(man)) {
            throw new IllegalArgumentException("nobody is like that");
        }
        long spot = 1L << place;
        char before = game.now.manAt(spot);
        if (before == KING) {
            throw new UnsupportedOperationException("the king is there");
        }
        game.now.settle(spot, man);
        game.start();
        return before;
    }

    public boolean begin(boolean isHunters) {
        boolean before = game.now.isHunters;
        game.now.isHunters = isHunters;
        game.start();
        return before;
    }

    public char at(int place) throws IndexOutOfBoundsException {
        checkPlace(place);
        return game.now.manAt(1L << place);
    }

    public int king() {
        return placeOf(game.now.king);
    }

    public int count(char man) throws IllegalArgumentException {
        if (man != HUNTER && man != GUARD) {
            throw new IllegalArgumentException("neither hunter nor guard");
        }
        return Long.bitCount(man == HUNTER ? game.now.hunters : game.now.guards);
    }

    public boolean isTurn() {
        return game.now.isHunters;
    }

    public boolean isHostile(int place, char man) throws IndexOutOfBoundsException, IllegalArgumentException {
        checkPlace(place);
        if (!isMan(man)) {
            throw new IllegalArgumentException("nobody is like that");
        }
        return (law.hostileTo(game.now, man == HUNTER) & (1L << place)) != 0;
    }

    public boolean surrounds() {
        return law.isSurrounded(game.now);
    }

    // ---- moves and ends

    public boolean canMove(int from, int to) throws IndexOutOfBoundsException {
        checkPlace(from);
        checkPlace(to);
        return !game.isOver() && law.allows(game.now, from, to);
    }

    public int countMoves() {
        listMoves();
        return listed.length();
    }

    public int moveAt(int index) throws NoSuchElementException {
        listMoves();
        if (index < 0 || index >= listed.length()) {
            throw new NoSuchElementException("no such move");
        }
        return listed.codeAt(index);
    }

    public int move(int from, int to)
            throws IndexOutOfBoundsException, IllegalStateException, UnsupportedOperationException {
        checkPlace(from);
        checkPlace(to);
        if (game.isOver()) {
            throw new IllegalStateException("the game is over");
        }
        if (!law.allows(game.now, from, to)) {
            throw new UnsupportedOperationException("the move cannot be made");
        }
        return advance(from, to);
    }

    public char winner() {
        return game.winner;
    }

    public int countMade() {
        return game.made;
    }

    public int repeats() {
        return game.repeated();
    }

    public int undo() throws NoSuchElementException {
        if (game.made == 0) {
            throw new NoSuchElementException("no move was made");
        }
        game.takeBack();
        return game.made;
    }

    // ---- searching and solving

    public int worth() {
        return law.worthOf(game.now, game.winner);
    }

    public int search(int depth) throws IllegalArgumentException {
        checkDepth(depth);
        if (game.isOver()) {
            return worth();
        }
        searcher.choose(game.now, depth);
        return searcher.reached;
    }

    public int best(int depth) throws IllegalArgumentException, IllegalStateException {
        checkDepth(depth);
        if (game.isOver()) {
            throw new IllegalStateException("the game is over");
        }
        return searcher.choose(game.now, depth);
    }

    public int play(int moves) throws IllegalArgumentException {
        if (moves < 1 || moves > MOST_PLAYED) {
            throw new IllegalArgumentException("no such number of moves");
        }
        int played = 0;
        while (played < moves && !game.isOver()) {
            z = (int) (z * DRAW_FACTOR % DRAW_MODULUS);
            int code = z % 4 == 0 ? moveDrawn(z / 4) : searcher.choose(game.now, 1);
            advance(code / 100, code % 100);
            played++;
        }
        return played;
    }

    public int seed(int z) throws IllegalArgumentException {
        if (z < 1 || z >= DRAW_MODULUS) {
            throw new IllegalArgumentException("no such z");
        }
        int before = this.z;
        this.z = z;
        return before;
    }

    public int countPositions() throws ArithmeticException {
        int reached = game.isSettled ? 1 : solver.explore(game.now);
        if (reached < 0) {
            throw new ArithmeticException("too many positions");
        }
        return reached;
    }

    public char solve() throws ArithmeticException {
        if (game.isSettled) {
            return game.winner;
        }
        if (solver.explore(game.now) < 0) {
            throw new ArithmeticException("too many positions");
        }
        return solver.solution();
    }

    public int kept(char winner) throws IllegalArgumentException {
        if (winner == NOBODY) {
            return countKept();
        }
        if (winner != GUARD && winner != HUNTER && winner != DRAWN) {
            throw new IllegalArgumentException("no such winner");
        }
        return countKeptOf(winner);
    }

    public int balanceBits() throws ArithmeticException {
        int all = countKept();
        if (all == 0) {
            throw new ArithmeticException("no game is kept");
        }
        float good = (float) countKeptOf(GUARD) + (float) countKeptOf(DRAWN) / 2.0f;
        return bitsOf(good / (float) all);
    }

    // ---- gaps, finds, families

    public char know(char rule, char known) throws IllegalArgumentException {
        int bit = ruleBit(rule);
        if (!isMark(known)) {
            throw new IllegalArgumentException("no such knowledge");
        }
        char before = gaps.known.markAt(bit);
        gaps.known.tell(bit, known);
        return before;
    }

    public int tie(char rule, boolean isOn, char other, boolean isOther)
            throws IllegalArgumentException, IllegalStateException {
        int bit = ruleBit(rule);
        int otherBit = ruleBit(other);
        if (bit == otherBit) {
            throw new IllegalArgumentException("a rule is not tied to itself");
        }
        if (gaps.isFull()) {
            throw new IllegalStateException("there are as many ties as can be");
        }
        gaps.bind(bit, isOn, otherBit, isOther);
        return gaps.ties;
    }

    public int untie() {
        int before = gaps.ties;
        gaps.ties = 0;
        return before;
    }

    public int countAgreeing() {
        return gaps.agreeingUpTo(ALL_RULES);
    }

    public int agreeing(int index) throws NoSuchElementException {
        int ruleset = gaps.agreeingAt(index);
        if (ruleset < 0) {
            throw new NoSuchElementException("no such ruleset agrees");
        }
        return ruleset;
    }

    public char find(int place, char mark) throws IndexOutOfBoundsException, IllegalArgumentException {
        checkPlace(place);
        if (!isMark(mark)) {
            throw new IllegalArgumentException("no such mark");
        }
        char before = marks.markAt(1L << place);
        marks.tell(1L << place, mark);
        return before;
    }

    public int complete(char symmetry) throws IllegalArgumentException, UnsupportedOperationException {
        if (symmetry != 'h' && symmetry != 'v' && symmetry != 'd' && symmetry != 'r') {
            throw new IllegalArgumentException("no such symmetry");
        }
        if (!marks.fill(ground, symmetry)) {
            throw new UnsupportedOperationException("a place and its image differ");
        }
        return ground.places - marks.countTold();
    }

    public char found(int place) throws IndexOutOfBoundsException {
        checkPlace(place);
        return marks.markAt(1L << place);
    }

    public int record(int rules, int year) throws IllegalArgumentException, IllegalStateException {
        if (!isRuleset(rules) || year < 0 || year > Family.LAST_YEAR) {
            throw new IllegalArgumentException("no such ruleset, or year");
        }
        if (family.isFull()) {
            throw new IllegalStateException("there are as many records as can be");
        }
        return family.enter(rules, year);
    }

    public int parent(int record) throws IndexOutOfBoundsException {
        checkRecord(record);
        return family.parentOf(record);
    }

    public int unlike(int record, int other) throws IndexOutOfBoundsException {
        checkRecord(record);
        checkRecord(other);
        return family.unlikeRules(record, other);
    }

    public int middle(int one, int other, int third) throws IndexOutOfBoundsException {
        checkRecord(one);
        checkRecord(other);
        checkRecord(third);
        int a = family.rulesOf(one);
        int b = family.rulesOf(other);
        int c = family.rulesOf(third);
        return a & b | a & c | b & c;
    }

    public double meanOn() throws ArithmeticException {
        int records = family.records;
        if (records == 0) {
            throw new ArithmeticException("there are no records");
        }
        return (double) family.rulesOn() / (double) records;
    }

    public long checksum() {
        long sum = 7;
        for (int place = 0; place < ground.places; place++) {
            sum = 31 * sum + game.now.manAt(1L << place);
        }
        sum = 31 * sum + law.rules;
        sum = 31 * sum + game.made;
        return 31 * sum + z;
    }

    public boolean isSound() {
        return isListSound() && isThoughtSound()
                && (game.isSettled || solver.explore(game.now) < 0 || isSolutionSound());
    }

    // ---- helpers of the face

    private void takeBoard(int size) {
        ground.lay(size);
        game.now.clear(ground.throne);
        marks.clear();
        game.start();
    }

    private void checkPlace(int place) {
        if (place < 0 || place >= ground.places) {
            throw new IndexOutOfBoundsException("no such place");
        }
    }

    private void checkRecord(int record) {
        if (record < 0 || record >= family.records) {
            throw new IndexOutOfBoundsException("no such record");
        }
    }

    private static void checkDepth(int depth) {
        if (depth < 1 || depth > MOST_DEPTH) {
            throw new IllegalArgumentException("no such depth");
        }
    }

    private static int ruleBit(char rule) {
        int index = RULES.indexOf(rule);
        if (index < 0) {
            throw new IllegalArgumentException("no such rule");
        }
        return 1 << index;
    }

    private static boolean isRuleset(int rules) {
        return rules >= 0 && rules <= ALL_RULES;
    }

    private static boolean isMan(char man) {
        return man == HUNTER || man == GUARD || man == KING;
    }

    private static boolean isMark(char mark) {
        return mark == ON || mark == OFF || mark == UNKNOWN;
    }

    /** The place of a set of one place, -1 for a set of none. */
    private static int placeOf(long spot) {
        return spot == 0 ? -1 : Long.bitCount(spot - 1);
    }

    private void listMoves() {
        if (game.isOver()) {
            listed.clear();
        } else {
            law.list(game.now, listed);
        }
    }

    private int advance(int from, int to) {
        int taken = game.advance(from, to);
        if (game.isOver() && !game.isKept) {
            archive.store(law.rules, ground.size, game.winner);
            game.isKept = true;
        }
        return taken;
    }

    private int moveDrawn(int number) {
        listMoves();
        int moves = listed.length();
        return moves > 0 ? listed.codeAt(number % moves) : -1;
    }

    private int countKept() {
        return countKeptOf(GUARD) + countKeptOf(HUNTER) + countKeptOf(DRAWN);
    }

    private int countKeptOf(char winner) {
        return archive.countOf(law.rules, ground.size, winner);
    }

    /** The bits of a float from 0 to 1, by hand, as the library's own call is not to be used. */
    private static int bitsOf(float share) {
        if (!(share > 0.0f)) {
            return 0;
        }
        float scaled = share;
        int exponent = 127;
        for (int i = 0; i < 126 && scaled < 1.0f; i++) {
            scaled = scaled * 2.0f;
            exponent--;
        }
        return (exponent << 23) + (int) ((scaled - 1.0f) * 8388608.0f);
    }

    private boolean isListSound() {
        listMoves();
        int index = 0;
        for (int from = 0; from < ground.places; from++) {
            for (int to = 0; to < ground.places; to++) {
                if (canMove(from, to)) {
                    if (listed.codeAt(index) != 100 * from + to) {
                        return false;
                    }
                    index++;
                }
            }
        }
        return index == listed.length();
    }

    private boolean isThoughtSound() {
        listMoves();
        for (int i = 0; i < listed.length(); i++) {
            int code = listed.codeAt(i);
            thought.copy(game.now);
            law.make(thought, code / 100, code % 100);
            game.recall(game.made, thought);
            if (!thought.isSame(game.now)) {
                return false;
            }
        }
        return true;
    }

    /** Whether the solution is the best that moves reach, by what the solver has just explored. */
    private boolean isSolutionSound() {
        char mine = game.now.isHunters ? HUNTER : GUARD;
        char reached = game.now.isHunters ? GUARD : HUNTER;
        law.list(game.now, listed);
        for (int i = 0; i < listed.length(); i++) {
            char value = solutionBehind(listed.codeAt(i));
            if (value == mine || value == DRAWN && reached != mine) {
                reached = value;
            }
        }
        return reached == solver.solution();
    }

    private char solutionBehind(int code) {
        thought.copy(game.now);
        law.make(thought, code / 100, code % 100);
        char end = law.endBehind(thought, code % 100);
        return end == NOBODY ? solver.solutionOf(thought) : end;
    }

    /** The places of a board, as sets of bits: the bit of a place is 1 shifted by its number. */
    private static final class Ground {
        private int size;
        private int places;
        private long all;
        private long edge;
        private long corners;
        private long throne;
        private long firstColumn;

        void lay(int newSize) {
            size = newSize;
            places = newSize * newSize;
            all = (1L << places) - 1;
            int last = newSize - 1;
            firstColumn = 0;
            for (int row = 0; row < newSize; row++) {
                firstColumn |= 1L << row * newSize;
            }
            long firstRow = (1L << newSize) - 1;
            long sides = firstColumn | firstColumn << last;
            long ends = firstRow | firstRow << last * newSize;
            edge = sides | ends;
            corners = sides & ends;
            throne = 1L << places / 2;
        }

        /** The places next to those of a set in one direction, as far as they are on the board. */
        long stepped(long set, int direction) {
            switch (direction) {
                case UP:
                    return set >>> size;
                case LEFT:
                    return (set & ~firstColumn) >>> 1;
                case RIGHT:
                    return set << 1 & all & ~firstColumn;
                default:
                    return set << size & all;
            }
        }

        long around(long set) {
            long next = 0;
            for (int direction = 0; direction < DIRECTIONS; direction++) {
                next |= stepped(set, direction);
            }
            return next;
        }

        long imageOf(long set, char symmetry) {
            long image = 0;
            for (int row = 0; row < size; row++) {
                for (int column = 0; column < size; column++) {
                    if ((set & 1L << row * size + column) != 0) {
                        image |= 1L << imageOfPlace(row, column, symmetry);
                    }
                }
            }
            return image;
        }

        private int imageOfPlace(int row, int column, char symmetry) {
            int last = size - 1;
            if (symmetry == 'd') {
                return column * size + row;
            }
            int imageRow = symmetry == 'h' ? row : last - row;
            int imageColumn = symmetry == 'v' ? column : last - column;
            return imageRow * size + imageColumn;
        }
    }

    /** A position: who stands where, and whose turn it is. */
    private static final class Men {
        private long hunters;
        private long guards;
        private long king;
        private boolean isHunters;

        void clear(long throne) {
            hunters = 0;
            guards = 0;
            king = throne;
            isHunters = true;
        }

        void copy(Men other) {
            hunters = other.hunters;
            guards = other.guards;
            king = other.king;
            isHunters = other.isHunters;
        }

        boolean isSame(Men other) {
            return hunters == other.hunters && guards == other.guards && king == other.king
                    && isHunters == other.isHunters;
        }

        long everybody() {
            return hunters | guards | king;
        }

        long movers() {
            return isHunters ? hunters : guards | king;
        }

        char manAt(long spot) {
            if ((hunters & spot) != 0) {
                return HUNTER;
            }
            if ((guards & spot) != 0) {
                return GUARD;
            }
            return (king & spot) != 0 ? KING : NOBODY;
        }

        void remove(long set) {
            hunters &= ~set;
            guards &= ~set;
            king &= ~set;
        }

        void settle(long spot, char man) {
            remove(spot);
            if (man == HUNTER) {
                hunters |= spot;
            } else if (man == GUARD) {
                guards |= spot;
            } else if (man == KING) {
                king = spot;
            }
        }
    }

    /** Moves as 100 times the place from, and the place to. */
    private static final class MoveList {
        private final short[] codes = new short[MOST_MOVES];
        private int listed;

        void clear() {
            listed = 0;
        }

        void add(int code) {
            if (listed >= 0 && listed < codes.length) {
                codes[listed] = (short) code;
                listed++;
            }
        }

        int length() {
            return listed;
        }

        int codeAt(int index) {
            return index >= 0 && index < listed && index < codes.length ? codes[index] : -1;
        }
    }

    /** What the rules say of men on the ground. */
    private static final class Law {
        private final Ground ground;
        private int rules;

        Law(Ground ground) {
            this.ground = ground;
        }

        boolean has(int bit) {
            return (rules & bit) != 0;
        }

        /** Where a man can go; for a set of men without the king, where any of them can. */
        long goalsOf(Men men, long movers) {
            long free = ground.all & ~men.everybody();
            int reach = has(RULE_ONE_PLACE) ? 1 : ground.size - 1;
            long goals = 0;
            for (int direction = 0; direction < DIRECTIONS; direction++) {
                long spots = movers;
                for (int gone = 0; gone < reach && spots != 0; gone++) {
                    spots = ground.stepped(spots, direction) & free;
                    goals |= spots;
                }
            }
            boolean isForKing = !has(RULE_KINGS_PLACES) || movers == men.king;
            return isForKing ? goals : goals & ~(ground.throne | ground.corners);
        }

        boolean allows(Men men, int from, int to) {
            long man = 1L << from & men.movers();
            return man != 0 && (goalsOf(men, man) & 1L << to) != 0;
        }

        void list(Men men, MoveList moves) {
            moves.clear();
            long movers = men.movers();
            for (int from = 0; from < ground.places; from++) {
                long man = 1L << from & movers;
                if (man != 0) {
                    listGoals(from, goalsOf(men, man), moves);
                }
            }
        }

        private void listGoals(int from, long goals, MoveList moves) {
            long rest = goals;
            for (int left = Long.bitCount(goals); left > 0; left--) {
                long goal = rest & -rest;
                moves.add(100 * from + placeOf(goal));
                rest ^= goal;
            }
        }

        long hostileTo(Men men, boolean isHunter) {
            long hostile = men.hunters;
            if (isHunter) {
                hostile = has(RULE_UNARMED) ? men.guards : men.guards | men.king;
            }
            if (has(RULE_THRONE)) {
                hostile |= ground.throne & ~men.everybody();
            }
            if (has(RULE_CORNERS)) {
                hostile |= ground.corners & ~men.everybody();
            }
            return hostile;
        }

        /** Moves a man, takes those whom he takes, and passes the turn; returns how many are taken. */
        int make(Men men, int from, int to) {
            long goal = 1L << to;
            char man = men.manAt(1L << from);
            men.remove(1L << from);
            men.settle(goal, man);
            long taken = takenBehind(men, goal);
            men.remove(taken);
            men.isHunters = !men.isHunters;
            return Long.bitCount(taken);
        }

        private long takenBehind(Men men, long mover) {
            if (mover == men.king && has(RULE_UNARMED)) {
                return 0;
            }
            long taken = 0;
            long others = men.hunters;
            if (men.isHunters) {
                others = has(RULE_BY_FOUR) ? men.guards : men.guards | men.king;
                taken = has(RULE_BY_FOUR) && isKingHeld(men, mover) ? men.king : 0;
            }
            long hostile = hostileTo(men, !men.isHunters);
            for (int direction = 0; direction < DIRECTIONS; direction++) {
                long next = ground.stepped(mover, direction) & others;
                if ((ground.stepped(next, direction) & hostile) != 0) {
                    taken |= next;
                }
            }
            return taken;
        }

        /** Whether four hold the king, one of whom has just moved. */
        private boolean isKingHeld(Men men, long mover) {
            long holding = men.hunters;
            if (has(RULE_THRONE)) {
                holding |= ground.throne & ~men.everybody();
            }
            boolean isNear = false;
            for (int direction = 0; direction < DIRECTIONS; direction++) {
                long next = ground.stepped(men.king, direction);
                if ((next & holding) == 0) {
                    return false;
                }
                isNear |= next == mover;
            }
            return isNear;
        }

        boolean isSurrounded(Men men) {
            if (men.king == 0) {
                return false;
            }
            long ways = ground.all & ~men.hunters;
            long reached = ways & ground.edge;
            for (int i = 0; i < MOST_PLACES; i++) {
                long further = reached | ground.around(reached) & ways;
                if (further == reached) {
                    break;
                }
                reached = further;
            }
            return (reached & (men.king | men.guards)) == 0;
        }

        /** Who has won as a game begins, NOBODY if it goes on. */
        char endAtStart(Men men) {
            if (men.king == 0) {
                return HUNTER;
            }
            if (men.hunters == 0) {
                return GUARD;
            }
            return endIfStuck(men);
        }

        /** Who has won behind a move, repetitions and the 200 moves aside, NOBODY if the game goes on. */
        char endBehind(Men men, int to) {
            long goal = 1L << to;
            if (men.king == 0) {
                return HUNTER;
            }
            boolean isAway = (goal & (has(RULE_EDGE) ? ground.edge : ground.corners)) != 0;
            if (men.king == goal && isAway || men.hunters == 0) {
                return GUARD;
            }
            if (!men.isHunters && has(RULE_SURROUND) && isSurrounded(men)) {
                return HUNTER;
            }
            return endIfStuck(men);
        }

        private char endIfStuck(Men men) {
            if (men.isHunters) {
                return goalsOf(men, men.hunters) != 0 ? NOBODY : GUARD;
            }
            return (goalsOf(men, men.king) | goalsOf(men, men.guards)) != 0 ? NOBODY : HUNTER;
        }

        int worthOf(Men men, char winner) {
            if (winner == GUARD) {
                return WON;
            }
            if (winner == HUNTER) {
                return -WON;
            }
            if (winner == DRAWN) {
                return 0;
            }
            return 10 * Long.bitCount(men.guards) - 6 * Long.bitCount(men.hunters)
                    + 2 * Long.bitCount(goalsOf(men, men.king));
        }
    }

    /** A game from its beginning, with the positions that came in it. */
    private static final class Game {
        private final Law law;
        private final Men now = new Men();
        private final long[] pastHunters = new long[MOST_MADE + 1];
        private final long[] pastGuards = new long[MOST_MADE + 1];
        private final long[] pastKings = new long[MOST_MADE + 1];
        private int made;
        private char winner = NOBODY;
        /** Whether the game is over otherwise than by repetition or 200 moves. */
        private boolean isSettled;
        private boolean isKept;

        Game(Law law) {
            this.law = law;
        }

        boolean isOver() {
            return winner != NOBODY;
        }

        void start() {
            made = 0;
            isKept = false;
            remember();
            winner = law.endAtStart(now);
            isSettled = isOver();
        }

        int advance(int from, int to) {
            int taken = law.make(now, from, to);
            made++;
            remember();
            winner = law.endBehind(now, to);
            isSettled = isOver();
            if (!isSettled && repeated() >= MOST_REPEATS) {
                winner = now.isHunters ? HUNTER : GUARD;
            } else if (!isSettled && made >= MOST_MADE) {
                winner = DRAWN;
            }
            return taken;
        }

        void takeBack() {
            if (made > 0) {
                made--;
                now.isHunters = !now.isHunters;
                recall(made, now);
                winner = NOBODY;
                isSettled = false;
            }
        }

        private void remember() {
            if (made >= 0 && made < pastHunters.length && made < pastGuards.length && made < pastKings.length) {
                pastHunters[made] = now.hunters;
                pastGuards[made] = now.guards;
                pastKings[made] = now.king;
            }
        }

        /** Sets men as they stood behind so many moves of this game. */
        void recall(int moves, Men men) {
            if (moves >= 0 && moves < pastHunters.length && moves < pastGuards.length && moves < pastKings.length) {
                men.hunters = pastHunters[moves];
                men.guards = pastGuards[moves];
                men.king = pastKings[moves];
                men.isHunters = (made - moves) % 2 == 0 ? now.isHunters : !now.isHunters;
            }
        }

        int repeated() {
            int times = 0;
            for (int moves = made; moves >= 0; moves -= 2) {
                if (isSameAt(moves)) {
                    times++;
                }
            }
            return times;
        }

        private boolean isSameAt(int moves) {
            return moves >= 0 && moves < pastHunters.length && moves < pastGuards.length
                    && moves < pastKings.length && pastHunters[moves] == now.hunters
                    && pastGuards[moves] == now.guards && pastKings[moves] == now.king;
        }
    }

    /** Looks ahead; the rows of each depth are its own. */
    private static final class Search {
        private final Law law;
        private final Men after = new Men();
        private final Men answered = new Men();
        private final MoveList moves = new MoveList();
        private final MoveList answers = new MoveList();
        /** The worth that the last search reached. */
        private int reached;

        Search(Law law) {
            this.law = law;
        }

        /** The first of the best moves of the side whose turn it is, in a game that goes on. */
        int choose(Men men, int depth) {
            boolean isLeast = men.isHunters;
            int chosen = -1;
            law.list(men, moves);
            for (int i = 0; i < moves.length(); i++) {
                int code = moves.codeAt(i);
                after.copy(men);
                law.make(after, code / 100, code % 100);
                char end = law.endBehind(after, code % 100);
                boolean isLeaf = depth <= 1 || end != NOBODY;
                int worth = isLeaf ? law.worthOf(after, end) : answer();
                if (chosen < 0 || (isLeast ? worth < reached : worth > reached)) {
                    reached = worth;
                    chosen = code;
                }
            }
            return chosen;
        }

        /** The worth that the answering side reaches by one move. */
        private int answer() {
            boolean isLeast = after.isHunters;
            int best = isLeast ? WON : -WON;
            law.list(after, answers);
            for (int i = 0; i < answers.length(); i++) {
                int code = answers.codeAt(i);
                answered.copy(after);
                law.make(answered, code / 100, code % 100);
                int worth = law.worthOf(answered, law.endBehind(answered, code % 100));
                best = isLeast ? Math.min(best, worth) : Math.max(best, worth);
            }
            return best;
        }
    }

    /** Solves a position over all that can come from it. */
    private static final class Solver {
        private static final int MOST_POSITIONS = 400;
        /** Longs for a set of positions, a bit each. */
        private static final int WORDS = 7;
        private static final int SLOTS = 1024;
        private static final int HUNTERS_TURN = 1;
        /** Reached by a way on which the game goes on. */
        private static final int GOES_ON = 2;
        private static final int HUNTERS_END = 4;
        private static final int GUARDS_END = 8;

        private final Law law;
        private final Men men = new Men();
        private final Men after = new Men();
        private final MoveList moves = new MoveList();
        private final long[] hunters = new long[MOST_POSITIONS];
        private final long[] guards = new long[MOST_POSITIONS];
        private final long[] kings = new long[MOST_POSITIONS];
        private final byte[] marks = new byte[MOST_POSITIONS];
        private final short[] waiting = new short[MOST_POSITIONS];
        private final short[] slots = new short[SLOTS];
        private final long[] nexts = new long[MOST_POSITIONS * WORDS];
        private final long[] huntersWin = new long[WORDS];
        private final long[] guardsWin = new long[WORDS];
        private int positions;
        private int queued;

        Solver(Law law) {
            this.law = law;
        }

        /** Looks at all positions that come from one where the game goes on; -1 if they are too many. */
        int explore(Men start) {
            positions = 0;
            queued = 0;
            Arrays.fill(slots, (short) 0);
            Arrays.fill(nexts, 0L);
            goOn(indexOf(start, true));
            for (int i = 0; i < queued && i < waiting.length; i++) {
                if (!expand(waiting[i])) {
                    return -1;
                }
            }
            settle();
            return positions;
        }

        char solution() {
            return valueOf(0);
        }

        char solutionOf(Men position) {
            return valueOf(indexOf(position, false));
        }

        private char valueOf(int index) {
            if (isIn(huntersWin, 0, index)) {
                return HUNTER;
            }
            return isIn(guardsWin, 0, index) ? GUARD : DRAWN;
        }

        private boolean isKnown(int index) {
            return index >= 0 && index < positions && index < MOST_POSITIONS && index < marks.length;
        }

        private void goOn(int index) {
            if (isKnown(index) && (marks[index] & GOES_ON) == 0 && queued >= 0 && queued < waiting.length) {
                marks[index] |= GOES_ON;
                waiting[queued] = (short) index;
                queued++;
            }
        }

        private boolean expand(int index) {
            recall(index);
            law.list(men, moves);
            for (int i = 0; i < moves.length(); i++) {
                int code = moves.codeAt(i);
                after.copy(men);
                law.make(after, code / 100, code % 100);
                char end = law.endBehind(after, code % 100);
                int next = indexOf(after, true);
                if (next < 0) {
                    return false;
                }
                link(index, next, end);
            }
            return true;
        }

        /** The end belongs to the way, as the same position can come by another one without it. */
        private void link(int index, int next, char end) {
            if (end == NOBODY) {
                include(nexts, index * WORDS, next);
                goOn(next);
            } else if (isKnown(index)) {
                marks[index] |= end == HUNTER ? HUNTERS_END : GUARDS_END;
            }
        }

        private void recall(int index) {
            if (isKnown(index) && index < hunters.length && index < guards.length && index < kings.length) {
                men.hunters = hunters[index];
                men.guards = guards[index];
                men.king = kings[index];
                men.isHunters = (marks[index] & HUNTERS_TURN) != 0;
            }
        }

        /** The index of a position, which is added if it is new and to be added; -1 if it is not there. */
        private int indexOf(Men position, boolean isAdding) {
            int first = slotOf(position);
            for (int tries = 0; tries < SLOTS; tries++) {
                int slot = first + tries & SLOTS - 1;
                if (slot < 0 || slot >= slots.length) {
                    return -1;
                }
                if (slots[slot] == 0) {
                    return isAdding ? add(position, slot) : -1;
                }
                int index = slots[slot] - 1;
                if (isAt(position, index)) {
                    return index;
                }
            }
            return -1;
        }

        private static int slotOf(Men position) {
            long mixed = position.hunters * 0x9E3779B97F4A7C15L + position.guards;
            mixed = (mixed ^ mixed >>> 31) * 0xBF58476D1CE4E5B9L + position.king;
            mixed = (mixed ^ mixed >>> 29) * 0x94D049BB133111EBL;
            return (int) (mixed >>> 40) + (position.isHunters ? 1 : 0) & SLOTS - 1;
        }

        private boolean isAt(Men position, int index) {
            return isKnown(index) && index < hunters.length && index < guards.length && index < kings.length
                    && hunters[index] == position.hunters && guards[index] == position.guards
                    && kings[index] == position.king
                    && position.isHunters == ((marks[index] & HUNTERS_TURN) != 0);
        }

        private int add(Men position, int slot) {
            int index = positions;
            if (index < 0 || index >= MOST_POSITIONS || index >= hunters.length || index >= guards.length
                    || index >= kings.length || index >= marks.length || slot < 0 || slot >= slots.length) {
                return -1;
            }
            hunters[index] = position.hunters;
            guards[index] = position.guards;
            kings[index] = position.king;
            marks[index] = (byte) (position.isHunters ? HUNTERS_TURN : 0);
            slots[slot] = (short) (index + 1);
            positions++;
            return index;
        }

        /** Goes over the positions until nobody is found any more who can make sure to win. */
        private void settle() {
            Arrays.fill(huntersWin, 0L);
            Arrays.fill(guardsWin, 0L);
            boolean isChanged = true;
            for (int round = 0; round <= positions && isChanged; round++) {
                isChanged = false;
                for (int index = positions - 1; index >= 0; index--) {
                    isChanged |= decide(index);
                }
            }
        }

        /** Tells whether a winner of a position was found that was not known. */
        private boolean decide(int index) {
            if (!isKnown(index) || (marks[index] & GOES_ON) == 0 || valueOf(index) != DRAWN) {
                return false;
            }
            boolean isHunters = (marks[index] & HUNTERS_TURN) != 0;
            int mark = marks[index];
            boolean isWon = (mark & (isHunters ? HUNTERS_END : GUARDS_END)) != 0;
            boolean isLost = !isWon;
            for (int word = 0; word < WORDS; word++) {
                long next = wordAt(nexts, index * WORDS + word);
                isWon |= (next & wordAt(isHunters ? huntersWin : guardsWin, word)) != 0;
                isLost &= (next & ~wordAt(isHunters ? guardsWin : huntersWin, word)) == 0;
            }
            if (isWon || isLost) {
                include(isWon == isHunters ? huntersWin : guardsWin, 0, index);
            }
            return isWon || isLost;
        }

        private static long wordAt(long[] sets, int word) {
            return word >= 0 && word < sets.length ? sets[word] : 0;
        }

        private static boolean isIn(long[] sets, int first, int index) {
            return index >= 0 && (wordAt(sets, first + (index >> 6)) & 1L << (index & 63)) != 0;
        }

        private static void include(long[] sets, int first, int index) {
            int word = first + (index >> 6);
            if (index >= 0 && word >= 0 && word < sets.length) {
                sets[word] |= 1L << (index & 63);
            }
        }
    }

    /** The games kept. */
    private static final class Archive {
        /** One for each call at most that an object is used for. */
        private static final int MOST_GAMES = 512;

        private final int[] games = new int[MOST_GAMES];
        private int stored;

        void store(int rules, int size, char winner) {
            if (stored >= 0 && stored < games.length) {
                games[stored] = codeOf(rules, size, winner);
                stored++;
            }
        }

        int countOf(int rules, int size, char winner) {
            int code = codeOf(rules, size, winner);
            int counted = 0;
            for (int i = 0; i < stored && i < games.length; i++) {
                if (games[i] == code) {
                    counted++;
                }
            }
            return counted;
        }

        private static int codeOf(int rules, int size, char winner) {
            return (winner << 8 | size) << 8 | rules;
        }
    }

    /** What is known of the rules, and what ties them. */
    private static final class Gaps {
        private static final int MOST_TIES = 8;

        private final Marks known = new Marks();
        private final int[] tiedBits = new int[MOST_TIES];
        private final int[] tiedAsTold = new int[MOST_TIES];
        private final int[] otherBits = new int[MOST_TIES];
        private final int[] otherAsTold = new int[MOST_TIES];
        private int ties;

        boolean isFull() {
            return ties >= MOST_TIES;
        }

        void bind(int bit, boolean isOn, int otherBit, boolean isOther) {
            if (ties >= 0 && ties < tiedBits.length && ties < tiedAsTold.length
                    && ties < otherBits.length && ties < otherAsTold.length) {
                tiedBits[ties] = bit;
                tiedAsTold[ties] = isOn ? bit : 0;
                otherBits[ties] = otherBit;
                otherAsTold[ties] = isOther ? otherBit : 0;
                ties++;
            }
        }

        private boolean agrees(int ruleset) {
            if (!known.allows(ruleset)) {
                return false;
            }
            for (int i = 0; i < ties; i++) {
                if (isBroken(i, ruleset)) {
                    return false;
                }
            }
            return true;
        }

        private boolean isBroken(int tie, int ruleset) {
            return tie >= 0 && tie < tiedBits.length && tie < tiedAsTold.length
                    && tie < otherBits.length && tie < otherAsTold.length
                    && (ruleset & tiedBits[tie]) == tiedAsTold[tie]
                    && (ruleset & otherBits[tie]) != otherAsTold[tie];
        }

        /** How many rulesets agree up to one, that included. */
        int agreeingUpTo(int last) {
            int counted = 0;
            for (int ruleset = 0; ruleset <= last && ruleset <= ALL_RULES; ruleset++) {
                if (agrees(ruleset)) {
                    counted++;
                }
            }
            return counted;
        }

        /** The ruleset that agrees at an index, -1 if there is none. */
        int agreeingAt(int index) {
            int left = index;
            for (int ruleset = 0; ruleset <= ALL_RULES && left >= 0; ruleset++) {
                if (agrees(ruleset)) {
                    if (left == 0) {
                        return ruleset;
                    }
                    left--;
                }
            }
            return -1;
        }
    }

    /** A set of bits, each of which is told to be on, or off, or is not told. */
    private static final class Marks {
        private long told;
        private long ones;

        void clear() {
            told = 0;
            ones = 0;
        }

        char markAt(long bit) {
            if ((told & bit) == 0) {
                return UNKNOWN;
            }
            return (ones & bit) != 0 ? ON : OFF;
        }

        void tell(long bit, char mark) {
            told = mark == UNKNOWN ? told & ~bit : told | bit;
            ones = mark == ON ? ones | bit : ones & ~bit;
        }

        int countTold() {
            return Long.bitCount(told);
        }

        boolean allows(long set) {
            return (set & told) == ones;
        }

        /** Completes what is not told by the images on the ground; tells whether it can be. */
        boolean fill(Ground ground, char symmetry) {
            long toldImage = ground.imageOf(told, symmetry);
            long onesImage = ground.imageOf(ones, symmetry);
            if (((ones ^ onesImage) & told & toldImage) != 0) {
                return false;
            }
            ones |= onesImage;
            told |= toldImage;
            return true;
        }
    }

    /** The rulesets recorded, with their years. */
    private static final class Family {
        private static final int MOST_RECORDS = 10;
        private static final int LAST_YEAR = 2000;

        private final int[] rulesets = new int[MOST_RECORDS];
        private final int[] years = new int[MOST_RECORDS];
        private int records;

        boolean isFull() {
            return records >= MOST_RECORDS;
        }

        int enter(int ruleset, int year) {
            int number = records;
            if (number >= 0 && number < rulesets.length && number < years.length) {
                rulesets[number] = ruleset;
                years[number] = year;
                records++;
            }
            return number;
        }

        int rulesOf(int number) {
            return number >= 0 && number < rulesets.length ? rulesets[number] : 0;
        }

        private int yearOf(int number) {
            return number >= 0 && number < years.length ? years[number] : 0;
        }

        int unlikeRules(int number, int other) {
            return Integer.bitCount(rulesOf(number) ^ rulesOf(other));
        }

        int parentOf(int number) {
            int parent = -1;
            for (int other = 0; other < records; other++) {
                if (yearOf(other) < yearOf(number) && (parent < 0 || isCloser(number, other, parent))) {
                    parent = other;
                }
            }
            return parent;
        }

        /** Whether another record is more likely the parent than that of a lower number so far. */
        private boolean isCloser(int number, int other, int parent) {
            int unlikeOther = unlikeRules(number, other);
            int unlikeParent = unlikeRules(number, parent);
            return unlikeOther < unlikeParent
                    || unlikeOther == unlikeParent && yearOf(other) > yearOf(parent);
        }

        int rulesOn() {
            int sum = 0;
            for (int number = 0; number < records; number++) {
                sum += Integer.bitCount(rulesOf(number));
            }
            return sum;
        }
    }
}
