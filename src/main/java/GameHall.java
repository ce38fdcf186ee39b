import java.util.Arrays;

/** Chess by its laws: texts become games; games tell positions, moves, verdicts, values and mates. */
public final class GameHall {
    public static final int NONE = -1;

    private static final int PAWN = 1;
    private static final int KNIGHT = 2;
    private static final int BISHOP = 3;
    private static final int ROOK = 4;
    private static final int QUEEN = 5;
    private static final int KING = 6;

    /** Nobody's (2), white's (0) or black's (1), by the number of a man. */
    private static final int[] OWNER = {2, 0, 0, 0, 0, 0, 0, 1, 1, 1, 1, 1, 1};
    private static final int[] KIND = {0, 1, 2, 3, 4, 5, 6, 1, 2, 3, 4, 5, 6};
    /** Black's men count against white, so that one sum serves both sides. */
    private static final int[] WORTH = {0, 1, 3, 3, 5, 9, 0, -1, -3, -3, -5, -9, 0};
    /** The steps along a line: the first four straight, the others askew. */
    private static final int[] STEP = {8, -8, 1, -1, 9, -9, 7, -7};
    /** The rook's corner of each right to castle: 1, 2, 4, 8. */
    private static final int[] CORNER = {7, 0, 63, 56};
    /** The letters of the men, from number 1 on. */
    private static final String LETTERS = "PNBRQKpnbrqk";

    /**
     * No side has more: nine queens with 27 moves each, two rooks with 14, two bishops with 13,
     * two knights with 8, a king with 8 and two to castle.
     */
    private static final int MOST_LEGAL = 323;
    private static final int MOST_MOVES = 600;
    private static final int TAPE_FULL = 8180;
    private static final int BLANK = ' ';

    private final Tape tape;
    private final Compass compass;
    private final RecordReader recordReader;
    private final MoveReader moveReader;
    private final Scribe scribe;
    private final Searcher searcher;
    /** Made when it is first asked: few games come to so few men. */
    private MateBook mateBook = null;
    private Game game;
    /** A text is read into this one, so that a refused text leaves the game alone. */
    private Game spare;
    private int fault = 0;
    private int faultMove = NONE;
    private int taken = 0;

    /** slots changes nothing of what is told, so nothing is made of it. */
    public GameHall(int slots) {
        Tape newTape = new Tape();
        Compass newCompass = new Compass();
        Mover mover = new Mover(newCompass);
        Scribe newScribe = new Scribe(mover);
        tape = newTape;
        compass = newCompass;
        scribe = newScribe;
        recordReader = new RecordReader(newTape, new Board(newCompass));
        moveReader = new MoveReader(newTape, newScribe);
        searcher = new Searcher(mover);
        game = new Game(newCompass, mover);
        spare = new Game(newCompass, mover);
    }

    public boolean tape(int a, int b, int c, int d, int e) {
        return tape.take(a, b, c, d, e);
    }

    public int submit(int n) throws IllegalArgumentException {
        if (n < 1 || n > 20) {
            throw new IllegalArgumentException();
        }
        tape.cut(20 - n);
        readText();
        tape.clear();
        if (fault != 0) {
            return NONE;
        }
        Game old = game;
        game = spare;
        spare = old;
        taken++;
        return game.many - 1;
    }

    private void readText() {
        faultMove = NONE;
        fault = recordReader.read(spare.board);
        if (fault != 0) {
            return;
        }
        spare.begin(recordReader.clock, recordReader.number);
        int place = recordReader.place;
        for (int k = 0; k < TAPE_FULL && fault == 0 && place < tape.end; k++) {
            fault = moveReader.read(spare, place + 1);
            if (fault == 0) {
                spare.advance(moveReader.found);
            } else {
                faultMove = k;
            }
            place = moveReader.stop;
        }
    }

    public int proceed(int i) throws IllegalStateException, IndexOutOfBoundsException {
        if (game.many == 0 || game.ended() || game.full()) {
            throw new IllegalStateException();
        }
        if (!game.lists(i)) {
            throw new IndexOutOfBoundsException();
        }
        game.advance(i);
        return game.verdict();
    }

    public boolean retreat() {
        return game.takeBack();
    }

    public int legalMany() {
        return game.many == 0 ? 0 : game.listMany;
    }

    public int legalMove(int i) throws IndexOutOfBoundsException {
        if (!game.lists(i)) {
            throw new IndexOutOfBoundsException();
        }
        return game.list[i];
    }

    public long spelling(int i) throws IndexOutOfBoundsException {
        if (!game.lists(i)) {
            throw new IndexOutOfBoundsException();
        }
        return scribe.spell(game, i);
    }

    public long recordAt(int k) {
        if (game.many == 0 || k < 0 || k > Scribe.LONGEST / 8) {
            return 0;
        }
        scribe.write(game);
        return scribe.eight(8 * k);
    }

    public int manOn(int square) {
        if (game.many == 0 || square < 0 || square > 63) {
            return NONE;
        }
        return game.board.men[square];
    }

    public long linesTo(int depth) throws IllegalStateException, IllegalArgumentException {
        if (game.many == 0) {
            throw new IllegalStateException();
        }
        if (!depthIsOpen(depth)) {
            throw new IllegalArgumentException();
        }
        return searcher.lines(game.board, depth);
    }

    public int valueAt(int depth) throws IllegalStateException, IllegalArgumentException {
        refuseSearch(depth);
        searcher.look(game, depth);
        return searcher.value;
    }

    public int bestAt(int depth) throws IllegalStateException, IllegalArgumentException {
        refuseSearch(depth);
        return searcher.look(game, depth);
    }

    private void refuseSearch(int depth) {
        if (game.many == 0) {
            throw new IllegalStateException();
        }
        boolean fewMen = depth >= 0 && depth <= 4 && game.board.menMany() <= 3;
        if (!fewMen && !depthIsOpen(depth)) {
            throw new IllegalArgumentException();
        }
    }

    private boolean depthIsOpen(int depth) {
        return depth >= 0 && (depth <= 2 || depth == 3 && game.listMany <= 30);
    }

    public int distanceToMate() throws IllegalStateException {
        if (game.many == 0) {
            throw new IllegalStateException();
        }
        return book().distance(game.board);
    }

    public int matingMove() throws IllegalStateException {
        if (game.many == 0) {
            throw new IllegalStateException();
        }
        return book().matingPlace(game);
    }

    private MateBook book() {
        if (mateBook == null) {
            mateBook = new MateBook(compass);
        }
        return mateBook;
    }

    public int historyOf(int i, int w) throws IndexOutOfBoundsException {
        if (i < 0 || i >= game.many || w < 0 || w >= Game.FACTS) {
            throw new IndexOutOfBoundsException();
        }
        return game.facts[i * Game.FACTS + w];
    }

    public int status(int which) {
        switch (which) {
            case 0: return tape.end;
            case 1: return fault;
            case 2: return faultMove;
            case 3: return game.many;
            case 10: return game.many == 0 ? 0 : game.board.menMany();
            case 11: return game.differentMany();
            case 12: return game.greatestCount();
            case 13: return taken;
            default: return game.many == 0 ? NONE : positionStatus(which);
        }
    }

    private int positionStatus(int which) {
        switch (which) {
            case 4: return game.verdict();
            case 5: return game.board.side;
            case 6: return game.board.rights;
            case 7: return game.board.passant;
            case 8: return game.clock();
            case 9: return game.number();
            default: return NONE;
        }
    }

    /** The bytes of a text, four in a number, so that a full tape stays small. */
    private static final class Tape {
        final int[] words = new int[TAPE_FULL / 4];
        int end = 0;

        boolean take(int a, int b, int c, int d, int e) {
            int at = end / 4;
            if (at + 5 > words.length) {
                return false;
            }
            words[at] = a;
            words[at + 1] = b;
            words[at + 2] = c;
            words[at + 3] = d;
            words[at + 4] = e;
            end += 20;
            return true;
        }

        void cut(int bytes) {
            end = Math.max(0, end - bytes);
        }

        void clear() {
            end = 0;
        }

        /** NONE behind the end, which is like no character that a reader looks for. */
        int byteAt(int place) {
            if (place < 0 || place >= end) {
                return NONE;
            }
            return words[place / 4] >>> (24 - 8 * (place % 4)) & 255;
        }
    }

    /** How far lines run and where knights leap, so that no walk has to look for the edge. */
    private static final class Compass {
        final int[] run = new int[64 * 8];
        final int[] leap = new int[64 * 8];
        final int[] leapMany = new int[64];

        Compass() {
            for (int square = 0; square < 64; square++) {
                measureRuns(square);
                gatherLeaps(square);
            }
        }

        private void measureRuns(int square) {
            int left = square % 8;
            int right = 7 - left;
            int down = square / 8;
            int up = 7 - down;
            int first = square * 8;
            run[first] = up;
            run[first + 1] = down;
            run[first + 2] = right;
            run[first + 3] = left;
            run[first + 4] = Math.min(up, right);
            run[first + 5] = Math.min(down, left);
            run[first + 6] = Math.min(up, left);
            run[first + 7] = Math.min(down, right);
        }

        private void gatherLeaps(int square) {
            for (int to = 0; to < 64; to++) {
                int files = to % 8 - square % 8;
                int ranks = to / 8 - square / 8;
                if (files * files + ranks * ranks == 5) {
                    leap[square * 8 + leapMany[square]] = to;
                    leapMany[square]++;
                }
            }
        }
    }

    /** Squares, side, rights and passant; the clock and the number are the game's. */
    private static final class Board {
        /** The rights that go when a square is from or to: kings' squares and rooks' corners. */
        private static final int[] LOST = {
            2, 0, 0, 0, 3, 0, 0, 1,
            0, 0, 0, 0, 0, 0, 0, 0, 0, 0, 0, 0, 0, 0, 0, 0,
            0, 0, 0, 0, 0, 0, 0, 0, 0, 0, 0, 0, 0, 0, 0, 0,
            0, 0, 0, 0, 0, 0, 0, 0, 0, 0, 0, 0, 0, 0, 0, 0,
            8, 0, 0, 0, 12, 0, 0, 4
        };

        private final Compass compass;
        final int[] men = new int[64];
        final int[] king = new int[2];
        int side = 0;
        int rights = 0;
        int passant = NONE;
        int balance = 0;

        Board(Compass compass) {
            this.compass = compass;
        }

        /** Kings' squares and the balance are kept beside the men, for speed. */
        void tally() {
            balance = 0;
            for (int square = 0; square < 64; square++) {
                int man = men[square];
                balance += WORTH[man];
                if (KIND[man] == KING) {
                    king[OWNER[man]] = square;
                }
            }
        }

        int menMany() {
            int many = 0;
            for (int square = 0; square < 64; square++) {
                if (men[square] != 0) {
                    many++;
                }
            }
            return many;
        }

        boolean castles(int move) {
            int files = (move >> 6 & 7) - (move & 7);
            return KIND[men[move & 63]] == KING && files * files == 4;
        }

        boolean passes(int move) {
            int to = move >> 6 & 63;
            return KIND[men[move & 63]] == PAWN && (to & 7) != (move & 7) && men[to] == 0;
        }

        boolean checked() {
            return attacked(king[side], 1 - side);
        }

        boolean attacked(int square, int by) {
            int base = 6 * by;
            int file = square & 7;
            int rank = square >> 3;
            int files = file - (king[by] & 7);
            int ranks = rank - (king[by] >> 3);
            if (files * files <= 1 && ranks * ranks <= 1) {
                return true;
            }
            int pawnRank = rank - 1 + 2 * by;
            if (pawnRank >= 0 && pawnRank < 8) {
                int behind = pawnRank * 8 + file;
                if (file > 0 && men[behind - 1] == base + PAWN || file < 7 && men[behind + 1] == base + PAWN) {
                    return true;
                }
            }
            for (int k = 0; k < compass.leapMany[square]; k++) {
                if (men[compass.leap[square * 8 + k]] == base + KNIGHT) {
                    return true;
                }
            }
            for (int line = 0; line < 8; line++) {
                int rider = base + (line < 4 ? ROOK : BISHOP);
                int steps = compass.run[square * 8 + line];
                int at = square;
                for (int k = 0; k < steps; k++) {
                    at += STEP[line];
                    int man = men[at];
                    if (man == rider || man == base + QUEEN) {
                        return true;
                    }
                    if (man != 0) {
                        break;
                    }
                }
            }
            return false;
        }

        /** Answers what unmake needs: the man on to, the rights and the passant before. */
        int make(int move) {
            int from = move & 63;
            int to = move >> 6 & 63;
            int become = move >> 12 & 7;
            int man = men[from];
            int gone = men[to];
            int before = gone | rights << 4 | (passant + 1) << 8;
            if (passes(move)) {
                liftPassed(from, to);
            }
            if (castles(move)) {
                moveRook(from, to, true);
            }
            men[from] = 0;
            men[to] = become == 0 ? man : become + 6 * side;
            balance += WORTH[men[to]] - WORTH[man] - WORTH[gone];
            passant = KIND[man] == PAWN && (to - from == 16 || from - to == 16) ? passantOf(to) : NONE;
            if (KIND[man] == KING) {
                king[side] = to;
            }
            rights &= ~(LOST[from] | LOST[to]);
            side = 1 - side;
            return before;
        }

        void unmake(int move, int before) {
            int from = move & 63;
            int to = move >> 6 & 63;
            side = 1 - side;
            int after = men[to];
            int man = move >> 12 == 0 ? after : PAWN + 6 * side;
            int gone = before & 15;
            men[from] = man;
            men[to] = gone;
            balance -= WORTH[after] - WORTH[man] - WORTH[gone];
            rights = before >> 4 & 15;
            passant = (before >> 8) - 1;
            if (KIND[man] == KING) {
                king[side] = from;
            }
            if (castles(move)) {
                moveRook(from, to, false);
            }
            if (passes(move)) {
                int other = PAWN + 6 * (1 - side);
                men[from & 56 | to & 7] = other;
                balance += WORTH[other];
            }
        }

        private void liftPassed(int from, int to) {
            int square = from & 56 | to & 7;
            balance -= WORTH[men[square]];
            men[square] = 0;
        }

        private void moveRook(int from, int to, boolean forth) {
            int corner = to > from ? from | 7 : from & 56;
            int inner = (from + to) / 2;
            men[forth ? corner : inner] = 0;
            men[forth ? inner : corner] = ROOK + 6 * side;
        }

        private int passantOf(int to) {
            int other = PAWN + 6 * (1 - side);
            int file = to & 7;
            boolean beside = file > 0 && men[to - 1] == other || file < 7 && men[to + 1] == other;
            return beside ? file : NONE;
        }
    }

    /** Finds the legal moves of a board, without a list of its own. */
    private static final class Mover {
        private final Compass compass;
        private Board board;
        private int[] row = new int[1];
        private int many = 0;
        private int own = 0;
        private int king = 0;
        private long pinned = 0;
        /** Of the board of the latest fill: without a move it tells mate from stalemate. */
        boolean checked = false;

        Mover(Compass compass) {
            this.compass = compass;
            this.board = new Board(compass);
        }

        /** By from, least first; it stops behind the man with whom there are enough. */
        int fill(Board on, int[] into, int enough) {
            board = on;
            row = into;
            many = 0;
            own = on.side;
            king = on.king[own];
            survey();
            for (int from = 0; from < 64 && many < enough; from++) {
                int man = on.men[from];
                if (OWNER[man] != own) {
                    continue;
                }
                switch (KIND[man]) {
                    case PAWN: addPawn(from); break;
                    case KNIGHT: addLeaps(from); break;
                    case BISHOP: addRides(from, 4, 8); break;
                    case ROOK: addRides(from, 0, 4); break;
                    case QUEEN: addRides(from, 0, 8); break;
                    default: addKing(from); break;
                }
            }
            return many;
        }

        /** Fill leaves only the moves of each man out of order, so that few have to change places. */
        void sort(int[] list, int listMany) {
            for (int k = 1; k < listMany && k < list.length; k++) {
                int move = list[k];
                int place = k;
                while (place > 0 && order(list[place - 1]) > order(move)) {
                    list[place] = list[place - 1];
                    place--;
                }
                list[place] = move;
            }
        }

        private static int order(int move) {
            return (move & 63) << 9 | (move >> 6 & 63) << 3 | move >> 12;
        }

        /** Who is pinned and whether there is check decides most moves without trying them. */
        private void survey() {
            int other = 6 * (1 - own);
            pinned = 0;
            checked = board.checked();
            for (int line = 0; line < 8; line++) {
                int rider = other + (line < 4 ? ROOK : BISHOP);
                int steps = compass.run[king * 8 + line];
                int at = king;
                int shield = NONE;
                for (int k = 0; k < steps; k++) {
                    at += STEP[line];
                    int man = board.men[at];
                    if (man == 0) {
                        continue;
                    }
                    if (shield == NONE && OWNER[man] == own) {
                        shield = at;
                        continue;
                    }
                    if (shield != NONE && (man == rider || man == other + QUEEN)) {
                        pinned |= 1L << shield;
                    }
                    break;
                }
            }
        }

        private void addPawn(int from) {
            int ahead = own == 0 ? 8 : -8;
            int one = from + ahead;
            if (one < 0 || one > 63) {
                return;
            }
            if (board.men[one] == 0) {
                if (allowed(from, one, one)) {
                    addStep(from, one);
                }
                int two = one + ahead;
                if (from >> 3 == (own == 0 ? 1 : 6) && board.men[two] == 0 && allowed(from, two, two)) {
                    addStep(from, two);
                }
            }
            for (int aside = -1; aside <= 1; aside += 2) {
                int file = (from & 7) + aside;
                int struck = file < 0 || file > 7 ? NONE : struckFrom(from, one + aside);
                if (struck != NONE && allowed(from, one + aside, struck)) {
                    addStep(from, one + aside);
                }
            }
        }

        /** Where the man stands that a pawn takes by going to a square; NONE if it takes none. */
        private int struckFrom(int from, int to) {
            int man = board.men[to];
            if (man != 0) {
                return open(to) ? to : NONE;
            }
            int passed = from & 56 | to & 7;
            boolean passing = (to & 7) == board.passant && to >> 3 == (own == 0 ? 5 : 2)
                    && board.men[passed] == PAWN + 6 * (1 - own);
            return passing ? passed : NONE;
        }

        private void addStep(int from, int to) {
            if (to > 7 && to < 56) {
                add(from | to << 6);
                return;
            }
            for (int become = KNIGHT; become <= QUEEN; become++) {
                add(from | to << 6 | become << 12);
            }
        }

        private void addLeaps(int from) {
            for (int k = 0; k < compass.leapMany[from]; k++) {
                int to = compass.leap[from * 8 + k];
                if (open(to) && allowed(from, to, to)) {
                    add(from | to << 6);
                }
            }
        }

        private void addRides(int from, int firstLine, int endLine) {
            for (int line = firstLine; line < endLine; line++) {
                int steps = compass.run[from * 8 + line];
                int to = from;
                for (int k = 0; k < steps; k++) {
                    to += STEP[line];
                    if (open(to) && allowed(from, to, to)) {
                        add(from | to << 6);
                    }
                    if (board.men[to] != 0) {
                        break;
                    }
                }
            }
        }

        private void addKing(int from) {
            for (int line = 0; line < 8; line++) {
                int to = from + STEP[line];
                if (compass.run[from * 8 + line] > 0 && open(to) && allowed(from, to, to)) {
                    add(from | to << 6);
                }
            }
            int home = 4 + 56 * own;
            if (from == home && !checked) {
                addCastling(home, home + 3, 1 << (2 * own));
                addCastling(home, home - 4, 2 << (2 * own));
            }
        }

        private void addCastling(int home, int corner, int right) {
            if ((board.rights & right) == 0 || board.men[corner] != ROOK + 6 * own) {
                return;
            }
            int step = corner > home ? 1 : -1;
            for (int at = Math.min(home, corner) + 1; at < Math.max(home, corner); at++) {
                if (board.men[at] != 0) {
                    return;
                }
            }
            if (!board.attacked(home + step, 1 - own) && !board.attacked(home + 2 * step, 1 - own)) {
                add(home | (home + 2 * step) << 6);
            }
        }

        private boolean open(int to) {
            int man = board.men[to];
            return OWNER[man] != own && KIND[man] != KING;
        }

        /** Only what a pin cannot decide is tried on the board: the king, check, and taking in passing. */
        private boolean allowed(int from, int to, int struck) {
            if (from != king && !checked && struck == to) {
                return (pinned >>> from & 1) == 0 || inLine(from, to);
            }
            int[] men = board.men;
            int man = men[from];
            int gone = men[struck];
            men[from] = 0;
            men[struck] = 0;
            men[to] = man;
            boolean safe = !board.attacked(from == king ? to : king, 1 - own);
            men[to] = 0;
            men[struck] = gone;
            men[from] = man;
            return safe;
        }

        private boolean inLine(int from, int to) {
            int fromFiles = (from & 7) - (king & 7);
            int fromRanks = (from >> 3) - (king >> 3);
            int toFiles = (to & 7) - (king & 7);
            int toRanks = (to >> 3) - (king >> 3);
            return fromFiles * toRanks == fromRanks * toFiles;
        }

        private void add(int move) {
            if (many < row.length) {
                row[many] = move;
                many++;
            }
        }
    }

    /** A row of positions with what the whole history says of each; the board is at the last one. */
    private static final class Game {
        static final int FACTS = 8;
        private static final int COUNT = 0;
        private static final int CLOCK = 1;
        private static final int VERDICT = 2;
        private static final int MOVE = 3;
        private static final int LEGAL = 4;
        private static final int CHECK = 5;
        private static final int FIRST = 6;
        private static final int PASSING = 7;
        private static final int MOST = MOST_MOVES + 1;

        final Board board;
        private final Mover mover;
        final int[] list = new int[MOST_LEGAL];
        int listMany = 0;
        int many = 0;
        final int[] facts = new int[MOST * FACTS];
        /** Four numbers a position, of 16 squares each: the history is searched for each new position. */
        private final long[] packed = new long[MOST * 4];
        /** Side, rights and the file of taking in passing: what besides the squares makes the same. */
        private final int[] marks = new int[MOST];
        private final int[] passants = new int[MOST];
        private final int[] numbers = new int[MOST];

        Game(Compass compass, Mover mover) {
            this.board = new Board(compass);
            this.mover = mover;
        }

        /** The board is at the record's position already. */
        void begin(int clock, int number) {
            many = 0;
            settle(NONE, clock, number);
        }

        boolean ended() {
            int verdict = verdict();
            return verdict >= 1 && verdict <= 5;
        }

        boolean full() {
            return many >= MOST;
        }

        boolean lists(int i) {
            return many > 0 && i >= 0 && i < listMany;
        }

        int verdict() {
            return many == 0 ? NONE : facts[(many - 1) * FACTS + VERDICT];
        }

        int clock() {
            return many == 0 ? NONE : facts[(many - 1) * FACTS + CLOCK];
        }

        int number() {
            return many == 0 ? NONE : numbers[many - 1];
        }

        int differentMany() {
            int different = 0;
            for (int i = 0; i < many; i++) {
                if (facts[i * FACTS + COUNT] == 1) {
                    different++;
                }
            }
            return different;
        }

        int greatestCount() {
            int greatest = 0;
            for (int i = 0; i < many; i++) {
                greatest = Math.max(greatest, facts[i * FACTS + COUNT]);
            }
            return greatest;
        }

        void advance(int i) {
            if (!lists(i) || full()) {
                return;
            }
            int move = list[i];
            boolean restarts = KIND[board.men[move & 63]] == PAWN || board.men[move >> 6 & 63] != 0;
            int clock = restarts ? 0 : clock() + 1;
            int number = number() + board.side;
            board.make(move);
            settle(move, clock, number);
        }

        boolean takeBack() {
            if (many < 2) {
                return false;
            }
            many--;
            unpack(many - 1);
            listMany = mover.fill(board, list, list.length);
            mover.sort(list, listMany);
            return true;
        }

        private void settle(int move, int clock, int number) {
            int at = many;
            listMany = mover.fill(board, list, list.length);
            boolean checked = mover.checked;
            mover.sort(list, listMany);
            int passing = passingFile();
            pack(at);
            marks[at] = board.side | board.rights << 1 | (passing + 1) << 5;
            passants[at] = board.passant;
            numbers[at] = number;
            int twin = latestSame(at);
            int count = twin == NONE ? 1 : facts[twin * FACTS + COUNT] + 1;
            int row = at * FACTS;
            facts[row + COUNT] = count;
            facts[row + CLOCK] = clock;
            facts[row + VERDICT] = judge(checked, count, clock);
            facts[row + MOVE] = move;
            facts[row + LEGAL] = listMany;
            facts[row + CHECK] = checked ? 1 : 0;
            facts[row + FIRST] = twin == NONE ? at : facts[twin * FACTS + FIRST];
            facts[row + PASSING] = passing;
            many++;
        }

        private int passingFile() {
            for (int i = 0; i < listMany; i++) {
                if (board.passes(list[i])) {
                    return list[i] >> 6 & 7;
                }
            }
            return NONE;
        }

        private void pack(int at) {
            for (int part = 0; part < 4; part++) {
                long word = 0;
                for (int k = 0; k < 16; k++) {
                    word |= (long) board.men[part * 16 + k] << (4 * k);
                }
                packed[at * 4 + part] = word;
            }
        }

        private void unpack(int at) {
            for (int square = 0; square < 64; square++) {
                board.men[square] = (int) (packed[at * 4 + square / 16] >>> (4 * (square % 16))) & 15;
            }
            board.side = marks[at] & 1;
            board.rights = marks[at] >> 1 & 15;
            board.passant = passants[at];
            board.tally();
        }

        private int latestSame(int at) {
            for (int i = at - 1; i >= 0; i--) {
                if (marks[i] == marks[at] && packed[i * 4] == packed[at * 4]
                        && packed[i * 4 + 1] == packed[at * 4 + 1]
                        && packed[i * 4 + 2] == packed[at * 4 + 2]
                        && packed[i * 4 + 3] == packed[at * 4 + 3]) {
                    return i;
                }
            }
            return NONE;
        }

        private int judge(boolean checked, int count, int clock) {
            if (listMany == 0) {
                return checked ? 1 : 2;
            }
            if (dead()) {
                return 3;
            }
            if (count >= 5) {
                return 4;
            }
            if (clock >= 150) {
                return 5;
            }
            if (count >= 3) {
                return clock >= 100 ? 8 : 6;
            }
            return clock >= 100 ? 7 : 0;
        }

        private boolean dead() {
            int light = 0;
            int whiteBishops = 0;
            int blackBishops = 0;
            int knights = 0;
            for (int square = 0; square < 64; square++) {
                int man = board.men[square];
                if (KIND[man] == PAWN || KIND[man] == ROOK || KIND[man] == QUEEN) {
                    return false;
                }
                if (KIND[man] == KNIGHT) {
                    knights++;
                } else if (KIND[man] == BISHOP) {
                    light += (square % 8 + square / 8) % 2;
                    whiteBishops += 1 - OWNER[man];
                    blackBishops += OWNER[man];
                }
            }
            boolean onePair = knights == 0 && whiteBishops == 1 && blackBishops == 1;
            return knights + whiteBishops + blackBishops <= 1 || onePair && light != 1;
        }
    }

    /** Reads the six fields of a record onto a board, or tells the first fault. */
    private static final class RecordReader {
        private final Tape tape;
        private final int[] counts = new int[13];
        private Board board;
        int place = 0;
        int clock = 0;
        int number = 0;

        RecordReader(Tape tape, Board board) {
            this.tape = tape;
            this.board = board;
        }

        /** 0 without a fault; place is then behind the record. */
        int read(Board into) {
            board = into;
            place = 0;
            if (!readMen() || !skipBlank()) {
                return 1;
            }
            if (!readSide() || !skipBlank()) {
                return 2;
            }
            if (!readRights() || !skipBlank()) {
                return 3;
            }
            if (!readPassant() || !skipBlank()) {
                return 4;
            }
            clock = readDigits(3);
            if (clock == NONE || !skipBlank()) {
                return 5;
            }
            number = readDigits(4);
            boolean closed = place == tape.end || tape.byteAt(place) == BLANK;
            if (number < 1 || !closed) {
                return 6;
            }
            return faultOfPosition();
        }

        private boolean skipBlank() {
            place++;
            return tape.byteAt(place - 1) == BLANK;
        }

        private boolean readMen() {
            Arrays.fill(board.men, 0);
            for (int rank = 7; rank >= 0; rank--) {
                if (!readRank(rank * 8)) {
                    return false;
                }
                if (rank > 0) {
                    if (tape.byteAt(place) != '/') {
                        return false;
                    }
                    place++;
                }
            }
            return true;
        }

        private boolean readRank(int first) {
            int file = 0;
            boolean behindDigit = false;
            for (int k = 0; k < 8 && file < 8; k++) {
                int sign = tape.byteAt(place);
                boolean digit = sign >= '1' && sign <= '8';
                int man = sign < 0 ? 0 : LETTERS.indexOf((char) sign) + 1;
                if (digit && behindDigit || !digit && man == 0) {
                    return false;
                }
                if (!digit) {
                    board.men[first + file] = man;
                }
                file += digit ? sign - '0' : 1;
                behindDigit = digit;
                place++;
            }
            return file == 8;
        }

        private boolean readSide() {
            int sign = tape.byteAt(place);
            place++;
            board.side = sign == 'b' ? 1 : 0;
            return sign == 'w' || sign == 'b';
        }

        private boolean readRights() {
            board.rights = 0;
            if (tape.byteAt(place) == '-') {
                place++;
                return true;
            }
            readRight('K', 1);
            readRight('Q', 2);
            readRight('k', 4);
            readRight('q', 8);
            return board.rights != 0;
        }

        private void readRight(char letter, int right) {
            if (tape.byteAt(place) == letter) {
                board.rights |= right;
                place++;
            }
        }

        private boolean readPassant() {
            int sign = tape.byteAt(place);
            board.passant = NONE;
            place++;
            if (sign == '-') {
                return true;
            }
            if (sign < 'a' || sign > 'h') {
                return false;
            }
            board.passant = sign - 'a';
            place++;
            return tape.byteAt(place - 1) == (board.side == 0 ? '6' : '3');
        }

        /** A digit too many is left standing, where the reader expects the field to be over. */
        private int readDigits(int most) {
            int value = NONE;
            for (int k = 0; k < most && value != 0; k++) {
                int sign = tape.byteAt(place);
                if (sign < '0' || sign > '9') {
                    break;
                }
                value = Math.max(value, 0) * 10 + sign - '0';
                place++;
            }
            return value;
        }

        private int faultOfPosition() {
            Arrays.fill(counts, 0);
            for (int square = 0; square < 64; square++) {
                counts[board.men[square]]++;
            }
            if (counts[KING] != 1 || counts[6 + KING] != 1) {
                return 7;
            }
            if (pawnOnLastRank() || tooMany(0) || tooMany(6)) {
                return 8;
            }
            if (!rightsStand()) {
                return 9;
            }
            if (!passantStands()) {
                return 10;
            }
            board.tally();
            return board.attacked(board.king[1 - board.side], board.side) ? 11 : 0;
        }

        private boolean pawnOnLastRank() {
            for (int file = 0; file < 8; file++) {
                if (KIND[board.men[file]] == PAWN || KIND[board.men[56 + file]] == PAWN) {
                    return true;
                }
            }
            return false;
        }

        private boolean tooMany(int base) {
            int grown = Math.max(0, counts[base + KNIGHT] - 2) + Math.max(0, counts[base + BISHOP] - 2)
                    + Math.max(0, counts[base + ROOK] - 2) + Math.max(0, counts[base + QUEEN] - 1);
            return counts[base + PAWN] + grown > 8;
        }

        private boolean rightsStand() {
            for (int k = 0; k < 4; k++) {
                int base = k < 2 ? 0 : 6;
                int home = k < 2 ? 4 : 60;
                boolean stand = board.men[home] == base + KING && board.men[CORNER[k]] == base + ROOK;
                if ((board.rights >> k & 1) == 1 && !stand) {
                    return false;
                }
            }
            return true;
        }

        private boolean passantStands() {
            if (board.passant == NONE) {
                return true;
            }
            boolean white = board.side == 0;
            int fourth = board.passant + (white ? 32 : 24);
            int back = white ? 8 : -8;
            return board.men[fourth] == (white ? 6 + PAWN : PAWN) && board.men[fourth + back] == 0
                    && board.men[fourth + 2 * back] == 0 && clock == 0;
        }
    }

    /**
     * Writes what a game shows: the record of its last position, and the moves of its list. A word
     * has its characters as bytes, the last one lowest.
     */
    private static final class Scribe {
        static final long SHORT_CASTLING = '0' << 16 | '-' << 8 | '0';
        static final long LONG_CASTLING = SHORT_CASTLING << 16 | '-' << 8 | '0';
        /** 71 for the ranks, 20 for the other fields and the blanks, and some to spare. */
        static final int LONGEST = 96;
        private final Mover mover;
        private final int[] one = new int[1];
        private final byte[] text = new byte[LONGEST];
        private int many = 0;

        Scribe(Mover mover) {
            this.mover = mover;
        }

        void write(Game game) {
            Board board = game.board;
            many = 0;
            for (int rank = 7; rank >= 0; rank--) {
                writeRank(board, rank * 8);
                put(rank > 0 ? '/' : BLANK);
            }
            put(board.side == 0 ? 'w' : 'b');
            put(BLANK);
            writeRights(board.rights);
            put(BLANK);
            if (board.passant == NONE) {
                put('-');
            } else {
                put('a' + board.passant);
                put(board.side == 0 ? '6' : '3');
            }
            put(BLANK);
            writeNumber(game.clock());
            put(BLANK);
            writeNumber(game.number());
        }

        long eight(int first) {
            long word = 0;
            for (int k = first; k < first + 8; k++) {
                word = word << 8 | (k >= 0 && k < many ? text[k] : 0);
            }
            return word;
        }

        private void put(int sign) {
            if (many < LONGEST) {
                text[many] = (byte) sign;
                many++;
            }
        }

        private void writeRank(Board board, int first) {
            int empty = 0;
            for (int file = 0; file < 8; file++) {
                int man = board.men[first + file];
                if (man == 0) {
                    empty++;
                    continue;
                }
                writeEmpty(empty);
                empty = 0;
                put(LETTERS.charAt(man - 1));
            }
            writeEmpty(empty);
        }

        private void writeEmpty(int empty) {
            if (empty > 0) {
                put('0' + empty);
            }
        }

        private void writeRights(int rights) {
            if (rights == 0) {
                put('-');
            }
            if ((rights & 1) != 0) {
                put('K');
            }
            if ((rights & 2) != 0) {
                put('Q');
            }
            if ((rights & 4) != 0) {
                put('k');
            }
            if ((rights & 8) != 0) {
                put('q');
            }
        }

        private void writeNumber(int value) {
            for (int unit = 10000; unit > 0; unit /= 10) {
                if (value >= unit || unit == 1) {
                    put('0' + value / unit % 10);
                }
            }
        }

        /** With its sign, and moved up so that the first character is highest. */
        long spell(Game game, int i) {
            long word = body(game, i);
            int sign = sign(game.board, game.list[i]);
            if (sign != 0) {
                word = word << 8 | sign;
            }
            for (int k = 0; k < 7 && word >>> 56 == 0; k++) {
                word <<= 8;
            }
            return word;
        }

        /** Without + and #. */
        long body(Game game, int i) {
            Board board = game.board;
            int move = game.list[i];
            int from = move & 63;
            int to = move >> 6 & 63;
            if (board.castles(move)) {
                return to > from ? SHORT_CASTLING : LONG_CASTLING;
            }
            int kind = KIND[board.men[from]];
            long word = 0;
            if (kind != PAWN) {
                word = origin(game, move, LETTERS.charAt(kind - 1));
                if (board.men[to] != 0) {
                    word = word << 8 | 'x';
                }
            } else if ((from & 7) != (to & 7)) {
                word = ('a' + (from & 7)) << 8 | 'x';
            }
            word = word << 16 | ('a' + (to & 7)) << 8 | ('1' + (to >> 3));
            int become = move >> 12;
            return become == 0 ? word : word << 8 | LETTERS.charAt(become - 1);
        }

        private long origin(Game game, int move, long letter) {
            int[] men = game.board.men;
            int from = move & 63;
            boolean rival = false;
            boolean fileShared = false;
            boolean rankShared = false;
            for (int i = 0; i < game.listMany; i++) {
                int other = game.list[i] & 63;
                if (other != from && game.list[i] >> 6 == move >> 6 && men[other] == men[from]) {
                    rival = true;
                    fileShared |= (other & 7) == (from & 7);
                    rankShared |= other >> 3 == from >> 3;
                }
            }
            long word = letter;
            if (rival && (!fileShared || rankShared)) {
                word = word << 8 | ('a' + (from & 7));
            }
            if (fileShared) {
                word = word << 8 | ('1' + (from >> 3));
            }
            return word;
        }

        /** The character + or #, or 0. */
        int sign(Board board, int move) {
            int before = board.make(move);
            int sign = 0;
            if (board.checked()) {
                sign = mover.fill(board, one, 1) > 0 ? '+' : '#';
            }
            board.unmake(move, before);
            return sign;
        }
    }

    /** Reads one move of a text: its form, and which one of the list it is. */
    private static final class MoveReader {
        private final Tape tape;
        private final Scribe scribe;
        private int start = 0;
        private int kind = 0;
        private int to = 0;
        private int become = 0;
        private int sign = 0;
        private long word = 0;
        /** Where the move ends in the text. */
        int stop = 0;
        /** Its place in the list. */
        int found = NONE;

        MoveReader(Tape tape, Scribe scribe) {
            this.tape = tape;
            this.scribe = scribe;
        }

        /** 0 without a fault. */
        int read(Game game, int first) {
            start = first;
            stop = first;
            found = NONE;
            for (int k = 0; k < TAPE_FULL && stop < tape.end && tape.byteAt(stop) != BLANK; k++) {
                stop++;
            }
            if (game.ended() || game.full()) {
                return 20;
            }
            if (!hasForm()) {
                return 21;
            }
            boolean meant = find(game);
            if (found == NONE) {
                return meant ? 23 : 22;
            }
            return scribe.sign(game.board, game.list[found]) == sign ? 0 : 24;
        }

        private boolean hasForm() {
            int end = stop;
            int last = tape.byteAt(end - 1);
            sign = 0;
            if (end > start && (last == '+' || last == '#')) {
                sign = last;
                end--;
            }
            // Six characters are the longest form; a longer word would not fit into a number.
            if (end - start < 2 || end - start > 6) {
                return false;
            }
            word = 0;
            for (int k = start; k < end; k++) {
                word = word << 8 | tape.byteAt(k);
            }
            kind = 0;
            become = 0;
            if (castles(end - start)) {
                return true;
            }
            kind = kindOf(tape.byteAt(start));
            return kind == 0 ? hasPawnForm(end) : readSquare(end - 2) && hasOriginForm(end - 2);
        }

        /** The length counts, too: a byte 0 ahead of a word would not change its number. */
        private boolean castles(int length) {
            return length == 3 && word == Scribe.SHORT_CASTLING || length == 5 && word == Scribe.LONG_CASTLING;
        }

        /** 0 for what is no letter of a man other than a pawn. */
        private static int kindOf(int letter) {
            int place = letter < 0 ? NONE : LETTERS.indexOf((char) letter);
            return place > 0 && place < KING ? place + 1 : 0;
        }

        private boolean hasPawnForm(int wordEnd) {
            int end = wordEnd;
            kind = PAWN;
            int grown = kindOf(tape.byteAt(end - 1));
            if (grown == KING) {
                return false;
            }
            if (grown != 0) {
                become = grown;
                end--;
            }
            if (end - start == 4) {
                return isFile(start) && tape.byteAt(start + 1) == 'x' && readSquare(end - 2);
            }
            return end - start == 2 && readSquare(start);
        }

        private boolean hasOriginForm(int squareStart) {
            int place = squareStart;
            if (place - 1 > start && tape.byteAt(place - 1) == 'x') {
                place--;
            }
            if (place - 1 > start && isRank(place - 1)) {
                place--;
            }
            if (place - 1 > start && isFile(place - 1)) {
                place--;
            }
            return place == start + 1;
        }

        private boolean readSquare(int place) {
            if (place < start || !isFile(place) || !isRank(place + 1)) {
                return false;
            }
            to = tape.byteAt(place) - 'a' + 8 * (tape.byteAt(place + 1) - '1');
            return true;
        }

        private boolean isFile(int place) {
            int letter = tape.byteAt(place);
            return letter >= 'a' && letter <= 'h';
        }

        private boolean isRank(int place) {
            int digit = tape.byteAt(place);
            return digit >= '1' && digit <= '8';
        }

        /** Whether some move is meant, however it is spelled. */
        private boolean find(Game game) {
            boolean meant = false;
            for (int i = 0; i < game.listMany && found == NONE; i++) {
                if (means(game.board, game.list[i])) {
                    meant = true;
                    found = scribe.body(game, i) == word ? i : NONE;
                }
            }
            return meant;
        }

        private boolean means(Board board, int move) {
            if (board.castles(move)) {
                return word == ((move >> 6 & 63) > (move & 63) ? Scribe.SHORT_CASTLING : Scribe.LONG_CASTLING);
            }
            return KIND[board.men[move & 63]] == kind && (move >> 6 & 63) == to && move >> 12 == become;
        }
    }

    /** Looks ahead on a board, which is left as it was. */
    private static final class Searcher {
        private static final int DEEPEST = 4;
        private static final int MATED = -1000;
        private static final int FAR = 10000;
        private final Mover mover;
        private final int[][] rows = new int[DEEPEST][MOST_LEGAL];
        /** The value that the latest look has found. */
        int value = 0;

        Searcher(Mover mover) {
            this.mover = mover;
        }

        long lines(Board board, int depth) {
            return countLines(board, depth);
        }

        private long countLines(Board board, int depth) {
            if (depth <= 0 || depth >= rows.length) {
                return 1;
            }
            int[] row = rows[depth];
            int many = mover.fill(board, row, row.length);
            if (depth == 1) {
                return many;
            }
            long lines = 0;
            for (int i = 0; i < many; i++) {
                int before = board.make(row[i]);
                lines += countLines(board, depth - 1);
                board.unmake(row[i], before);
            }
            return lines;
        }

        /** The place of the best move, or NONE. */
        int look(Game game, int depth) {
            Board board = game.board;
            if (depth <= 0 || game.listMany == 0) {
                value = standing(board);
                return NONE;
            }
            int best = NONE;
            value = -FAR;
            for (int i = 0; i < game.listMany; i++) {
                int before = board.make(game.list[i]);
                int turned = turn(worth(board, depth - 1, -FAR, unturn(value)));
                board.unmake(game.list[i], before);
                if (turned > value) {
                    value = turned;
                    best = i;
                }
            }
            return best;
        }

        /**
         * Exact between low and high; outside it is a bound on the same side, which is all that the
         * caller needs: what cannot change the answer is not looked at.
         */
        private int worth(Board board, int depth, int low, int high) {
            if (depth <= 0 || depth >= rows.length) {
                return standing(board);
            }
            int[] row = rows[depth];
            int many = mover.fill(board, row, row.length);
            if (many == 0) {
                return mover.checked ? MATED : 0;
            }
            int best = -FAR;
            for (int i = 0; i < many && best < high; i++) {
                int before = board.make(row[i]);
                int turned = turn(worth(board, depth - 1, unturn(high), unturn(Math.max(low, best))));
                board.unmake(row[i], before);
                best = Math.max(best, turned);
            }
            return best;
        }

        private int standing(Board board) {
            if (mover.fill(board, rows[0], 1) == 0) {
                return mover.checked ? MATED : 0;
            }
            return board.side == 0 ? board.balance : -board.balance;
        }

        private static int turn(int worth) {
            int turned = -worth;
            if (turned < -900) {
                return turned + 1;
            }
            return turned > 900 ? turned - 1 : turned;
        }

        /** What turns into this: no value is near 900, so there is just one. */
        private static int unturn(int turned) {
            if (turned < -900) {
                return 1 - turned;
            }
            return turned > 900 ? -turned - 1 : -turned;
        }
    }

    /**
     * How far the mate is, for a king and one man against a king. It works back from the mates, level
     * by level, for all squares of the weak king at once: its moves never change the pair of the
     * other two, so one long has all that they can lead to.
     */
    private static final class MateBook {
        private static final long LEFT_FILE = 0x0101010101010101L;
        private static final long RIGHT_FILE = LEFT_FILE << 7;
        private final Compass compass;
        /** Where the weak king can go and is not lost yet (also when it takes the man there). */
        private final long[] escape = new long[MateTable.PAIRS];
        /** Where the weak king is to move, has moves, and is not lost yet. */
        private final long[] open = new long[MateTable.PAIRS];
        private final long[] freshWeak = new long[MateTable.PAIRS];
        private final long[] freshStrong = new long[MateTable.PAIRS];
        private int kind = 0;
        private MateTable queens = null;
        private MateTable rooks = null;
        private MateTable pawns = null;

        MateBook(Compass compass) {
            this.compass = compass;
        }

        int matingPlace(Game game) {
            Board board = game.board;
            int distance = distance(board);
            for (int i = 0; i < game.listMany && distance > 0; i++) {
                int before = board.make(game.list[i]);
                int next = distance(board);
                board.unmake(game.list[i], before);
                if (next == distance - 1) {
                    return i;
                }
            }
            return NONE;
        }

        int distance(Board board) {
            int square = loneMan(board);
            if (square == NONE || board.rights != 0) {
                return NONE;
            }
            MateTable table = tableFor(KIND[board.men[square]]);
            if (table == null) {
                return NONE;
            }
            int strong = OWNER[board.men[square]];
            // The tables know white as the stronger side: for black the board is turned over.
            int turn = strong == 0 ? 0 : 56;
            int pair = (board.king[strong] ^ turn) * 64 + (square ^ turn);
            return table.distance(pair, board.king[1 - strong] ^ turn, board.side == strong);
        }

        /** The square of the only man besides the kings, or NONE. */
        private static int loneMan(Board board) {
            int found = NONE;
            for (int square = 0; square < 64; square++) {
                int man = board.men[square];
                if (man == 0 || KIND[man] == KING) {
                    continue;
                }
                if (found != NONE) {
                    return NONE;
                }
                found = square;
            }
            return found;
        }

        /** None for a knight or a bishop, which never mate: they attack squares of one colour only. */
        private MateTable tableFor(int man) {
            if (man == KNIGHT || man == BISHOP) {
                return null;
            }
            if (man != ROOK && queens == null) {
                queens = build(QUEEN);
            }
            if (man != QUEEN && rooks == null) {
                rooks = build(ROOK);
            }
            if (man == PAWN && pawns == null) {
                pawns = build(PAWN);
            }
            return man == QUEEN ? queens : man == ROOK ? rooks : pawns;
        }

        private MateTable build(int man) {
            MateTable table = new MateTable();
            kind = man;
            for (int pair = 0; pair < MateTable.PAIRS; pair++) {
                prepare(pair);
                table.noteWeak(pair, 1, freshWeak[pair]);
            }
            boolean grows = kind == PAWN && queens != null && rooks != null;
            boolean goesOn = true;
            for (int level = 1; level < MateTable.TOP && goesOn; level++) {
                stepBack();
                if (grows) {
                    growBack(queens, level);
                    growBack(rooks, level);
                }
                goesOn = settle(table, level) || grows;
            }
            return table;
        }

        /** Pairs that cannot be stay empty, and so take no part in anything. */
        private void prepare(int pair) {
            int king = pair / 64;
            int man = pair % 64;
            escape[pair] = 0;
            open[pair] = 0;
            freshWeak[pair] = 0;
            if (king == man || kind == PAWN && (man < 8 || man > 55)) {
                return;
            }
            long reach = reachOf(king, man);
            long beside = 1L << king | around(1L << king);
            escape[pair] = ~(reach | beside);
            long placed = ~(beside | 1L << man);
            long mobile = around(escape[pair]);
            open[pair] = placed & mobile;
            freshWeak[pair] = placed & ~mobile & reach;
        }

        /** What the man attacks, with only its own king in the way. */
        private long reachOf(int king, int man) {
            if (kind == PAWN) {
                long ahead = 1L << (man + 8);
                return (ahead & ~LEFT_FILE) >>> 1 | (ahead & ~RIGHT_FILE) << 1;
            }
            long squares = 0;
            for (int line = 0; line < (kind == ROOK ? 4 : 8); line++) {
                int steps = compass.run[man * 8 + line];
                int at = man;
                for (int k = 0; k < steps && at != king; k++) {
                    at += STEP[line];
                    squares |= 1L << at;
                }
            }
            return squares;
        }

        private static long around(long squares) {
            long aside = (squares & ~LEFT_FILE) >>> 1 | (squares & ~RIGHT_FILE) << 1;
            long row = squares | aside;
            return aside | row << 8 | row >>> 8;
        }

        /** From where the strong side comes to a position that is lost since the latest level. */
        private void stepBack() {
            Arrays.fill(freshStrong, 0L);
            for (int pair = 0; pair < MateTable.PAIRS; pair++) {
                if (freshWeak[pair] == 0) {
                    continue;
                }
                stepKingBack(pair);
                if (kind == PAWN) {
                    stepPawnBack(pair);
                } else {
                    rideBack(pair);
                }
            }
        }

        private void stepKingBack(int pair) {
            int king = pair / 64;
            for (int line = 0; line < 8; line++) {
                if (compass.run[king * 8 + line] > 0) {
                    freshStrong[pair + 64 * STEP[line]] |= freshWeak[pair];
                }
            }
        }

        /** The weak king is never in the way: were it on the man's line, it would stand in check. */
        private void rideBack(int pair) {
            int king = pair / 64;
            int man = pair % 64;
            for (int line = 0; line < (kind == ROOK ? 4 : 8); line++) {
                int steps = compass.run[man * 8 + line];
                int at = man;
                for (int k = 0; k < steps; k++) {
                    at += STEP[line];
                    if (at == king) {
                        break;
                    }
                    freshStrong[king * 64 + at] |= freshWeak[pair];
                }
            }
        }

        private void stepPawnBack(int pair) {
            int king = pair / 64;
            int man = pair % 64;
            if (man < 16) {
                return;
            }
            freshStrong[pair - 8] |= freshWeak[pair];
            if (man / 8 == 3 && king != man - 8) {
                freshStrong[pair - 16] |= freshWeak[pair] & ~(1L << (man - 8));
            }
        }

        /** Pawns of the seventh rank that become what is lost since the latest level. */
        private void growBack(MateTable grown, int level) {
            for (int king = 0; king < 64; king++) {
                for (int man = 48; man < 56; man++) {
                    freshStrong[king * 64 + man] |= grown.weakAt(king * 64 + man + 8, level);
                }
            }
        }

        /** Whether anything is lost at this level that was not before. */
        private boolean settle(MateTable table, int level) {
            boolean some = false;
            for (int pair = 0; pair < MateTable.PAIRS; pair++) {
                long won = freshStrong[pair] & escape[pair] & ~(1L << (pair % 64));
                freshWeak[pair] = 0;
                if (won == 0) {
                    continue;
                }
                escape[pair] &= ~won;
                table.noteStrong(pair, level, won);
                long lost = open[pair] & ~around(escape[pair]);
                open[pair] &= ~lost;
                table.noteWeak(pair, level + 1, lost);
                freshWeak[pair] = lost;
                some |= lost != 0;
            }
            return some;
        }
    }

    /**
     * For each pair of the strong king's and the man's square, and each square of the weak king, a
     * level: 0 if there is no mate. A bit of the levels for all 64 squares is one long.
     */
    private static final class MateTable {
        static final int PAIRS = 64 * 64;
        private static final int PLANES = 5;
        static final int TOP = (1 << PLANES) - 1;
        private final long[] weak = new long[PLANES * PAIRS];
        private final long[] strong = new long[PLANES * PAIRS];

        /** The weak side to move: mate is level 1, and each level more is two half moves more. */
        void noteWeak(int pair, int level, long squares) {
            note(weak, pair, level, squares);
        }

        /** The strong side to move: mate in one is level 1. */
        void noteStrong(int pair, int level, long squares) {
            note(strong, pair, level, squares);
        }

        private static void note(long[] planes, int pair, int level, long squares) {
            for (int plane = 0; plane < PLANES; plane++) {
                if ((level >> plane & 1) == 1) {
                    planes[plane * PAIRS + pair] |= squares;
                }
            }
        }

        long weakAt(int pair, int level) {
            long squares = -1L;
            for (int plane = 0; plane < PLANES; plane++) {
                long bits = weak[plane * PAIRS + pair];
                squares &= (level >> plane & 1) == 1 ? bits : ~bits;
            }
            return squares;
        }

        int distance(int pair, int square, boolean strongMoves) {
            long[] planes = strongMoves ? strong : weak;
            int level = 0;
            for (int plane = 0; plane < PLANES; plane++) {
                level |= (int) (planes[plane * PAIRS + pair] >>> square & 1) << plane;
            }
            if (level == 0) {
                return NONE;
            }
            return strongMoves ? 2 * level - 1 : 2 * level - 2;
        }
    }
}
