/** Each promise of the document by number: ordinary inputs, the edges it names, wrong inputs. */
public final class PromiseTest {
    private static final Class<IllegalStateException> STATE = IllegalStateException.class;
    private static final Class<IllegalArgumentException> ARGUMENT = IllegalArgumentException.class;
    private static final Class<IndexOutOfBoundsException> INDEX = IndexOutOfBoundsException.class;
    private static final String ROOKS = "r3k2r/8/8/8/8/8/8/R3K2R";
    private static final String SHUFFLE = " Nf3 Nf6 Ng1 Ng8";

    private PromiseTest() {
    }

    public static void main(String[] args) {
        newObject();
        tape();
        submit();
        recordFaults();
        positionFaults();
        moveFaults();
        longText();
        proceed();
        verdicts();
        retreat();
        legal();
        castling();
        inPassing();
        spelling();
        recordAt();
        manOn();
        linesTo();
        valueAt();
        bestAt();
        distanceToMate();
        matingMove();
        historyOf();
        status();
        Hall.end("PromiseTest");
    }

    private static void fault(String text, int fault, int move) {
        GameHall hall = new GameHall(2);
        Hall.due("submit of '" + text + "'", -1, Hall.submit(hall, text));
        Hall.due("fault of '" + text + "'", fault, hall.status(1));
        Hall.due("faulty move of '" + text + "'", move, hall.status(2));
        Hall.due("positions behind '" + text + "'", 0, hall.status(3));
    }

    private static void right(String text, int moves) {
        GameHall hall = new GameHall(2);
        Hall.due("submit of '" + text + "'", moves, Hall.submit(hall, text));
        Hall.due("fault of '" + text + "'", 0, hall.status(1));
    }

    private static void newObject() {
        for (int slots : new int[] {Integer.MIN_VALUE, -1, 0, 5, 12, 13, Integer.MAX_VALUE}) {
            GameHall hall = new GameHall(slots);
            int[] due = {0, 0, -1, 0, -1, -1, -1, -1, -1, -1, 0, 0, 0, 0, -1};
            for (int which = 0; which < due.length; which++) {
                Hall.due("1: status " + which, due[which], hall.status(which));
            }
            Hall.due("1: submit", 1, Hall.submit(hall, Hall.START + " e4"));
            Hall.due("1: legalMany", 20, hall.legalMany());
        }
        Hall.due("NONE", -1, GameHall.NONE);
        withoutGame();
    }

    private static void withoutGame() {
        GameHall hall = new GameHall(0);
        Hall.due("no game: retreat", 0, hall.retreat() ? 1 : 0);
        Hall.due("no game: legalMany", 0, hall.legalMany());
        Hall.due("no game: recordAt", 0, hall.recordAt(0));
        Hall.due("no game: manOn", -1, hall.manOn(0));
        Hall.dueThrows("no game: proceed", STATE, () -> hall.proceed(0));
        Hall.dueThrows("no game: proceed of none", STATE, () -> hall.proceed(-1));
        Hall.dueThrows("no game: legalMove", INDEX, () -> hall.legalMove(0));
        Hall.dueThrows("no game: spelling", INDEX, () -> hall.spelling(0));
        Hall.dueThrows("no game: linesTo", STATE, () -> hall.linesTo(0));
        Hall.dueThrows("no game: linesTo of none", STATE, () -> hall.linesTo(-1));
        Hall.dueThrows("no game: valueAt", STATE, () -> hall.valueAt(9));
        Hall.dueThrows("no game: bestAt", STATE, () -> hall.bestAt(9));
        Hall.dueThrows("no game: distanceToMate", STATE, () -> hall.distanceToMate());
        Hall.dueThrows("no game: matingMove", STATE, () -> hall.matingMove());
        Hall.dueThrows("no game: historyOf", INDEX, () -> hall.historyOf(0, 0));
    }

    private static void tape() {
        GameHall hall = new GameHall(1);
        for (int k = 1; k <= 409; k++) {
            Hall.due("2: tape " + k, 1, hall.tape(0x20202020, -1, 0, k, 7) ? 1 : 0);
            if (k % 50 == 9) {
                Hall.due("2: bytes", 20 * k, hall.status(0));
            }
        }
        Hall.due("2: full tape", 0, hall.tape(1, 2, 3, 4, 5) ? 1 : 0);
        Hall.due("2: bytes of a full tape", 8180, hall.status(0));
        Hall.due("2: submit of a full tape", -1, hall.submit(20));
        Hall.due("2: bytes then", 0, hall.status(0));
        Hall.due("2: tape again", 1, hall.tape(1, 2, 3, 4, 5) ? 1 : 0);
    }

    private static void submit() {
        GameHall hall = new GameHall(1);
        for (int n : new int[] {0, -1, 21, Integer.MIN_VALUE, Integer.MAX_VALUE}) {
            Hall.dueThrows("3: submit " + n + " of nothing", ARGUMENT, () -> hall.submit(n));
        }
        Hall.due("3: no text was read", 0, hall.status(1));
        Hall.due("3: empty text", -1, hall.submit(1));
        Hall.due("3: its fault", 1, hall.status(1));
        int n = Hall.load(hall, Hall.START + " e4 e5");
        Hall.dueThrows("3: submit 0", ARGUMENT, () -> hall.submit(0));
        Hall.dueThrows("3: submit 21", ARGUMENT, () -> hall.submit(21));
        Hall.due("3: the tape stays", 80, hall.status(0));
        Hall.due("3: so does the fault", 1, hall.status(1));
        Hall.due("3: submit", 2, hall.submit(n));
        Hall.due("3: the tape is empty", 0, hall.status(0));
        String before = Hall.record(hall);
        Hall.due("3: refused", -1, Hall.submit(hall, Hall.START + " d4 d5 e4 Ke8"));
        Hall.due("3: the game stays", before, Hall.record(hall));
        Hall.due("3: and its positions", 3, hall.status(3));
        Hall.due("3: and its list", 29, hall.legalMany());
        Hall.due("3: the tape is empty then too", 0, hall.status(0));
        Hall.due("3: a new game", 0, Hall.submit(hall, ROOKS + " b - - 7 8"));
        Hall.due("3: stands there", ROOKS + " b - - 7 8", Hall.record(hall));
        Hall.due("3: one position", 1, hall.status(3));
    }

    private static void recordFaults() {
        String kings = "4k3/8/8/8/8/8/8/4K3";
        right(kings + " w - - 0 1", 0);
        for (String men : new String[] {"", " ", "8", "4k3/8/8/8/8/8/8/4K3/", "4k3/8/8/8/8/8/8", "4k3/8/8/8/8/8/8/4K4",
            "4k3/8/8/8/8/8/8/4K2", "4k3/44/8/8/8/8/8/4K3", "4k3/9/8/8/8/8/8/4K3", "4k3/0p7/8/8/8/8/8/4K3",
            "4k3/8/8/8/8/8/7/4K3", "4k3/8/8/8/8/8/8p/4K3", "4k3//8/8/8/8/8/4K3", "4x3/8/8/8/8/8/8/4K3", "/" + kings}) {
            fault(men + " w - - 0 1", 1, -1);
        }
        fault("", 1, -1);
        fault(kings, 1, -1);
        fault(" " + kings + " w - - 0 1", 1, -1);
        for (String rest : new String[] {" ", "  w", " x - - 0 1", " W - - 0 1", " wb - - 0 1", " w", "  w - - 0 1"}) {
            fault(kings + rest, 2, -1);
        }
        for (String rest : new String[] {" w ", " w  - 0 1", " w -- - 0 1", " w QK - 0 1", " w KK - 0 1", " w K- - 0 1",
            " w -", " w KQkqK - 0 1", " w x - 0 1"}) {
            fault(kings + rest, 3, -1);
        }
        for (String rest : new String[] {" w - ", " w - e3 0 1", " b - e6 0 1", " w - e 0 1", " w - i6 0 1", " w - e66 0 1",
            " w - 6 0 1", " w - -", " w - E6 0 1", " w - -- 0 1"}) {
            fault(kings + rest, 4, -1);
        }
        for (String rest : new String[] {" w - - ", " w - - 00 1", " w - - 01 1", " w - - 1000 1", " w - - -1 1", " w - - x 1",
            " w - - 5", " w - - 5x 1", " w - - +1 1"}) {
            fault(kings + rest, 5, -1);
        }
        for (String rest : new String[] {" w - - 0 ", " w - - 0 0", " w - - 0 01", " w - - 0 10000", " w - - 0 1x", " w - - 0 x",
            " w - - 0 1\n", " w - - 0 -1"}) {
            fault(kings + rest, 6, -1);
        }
        right(kings + " b - - 999 9999", 0);
        right(ROOKS + " w KQkq - 0 1", 0);
        right(ROOKS + " w Qk - 0 1", 0);
        fault("x w - -", 1, -1);
        fault("8/8/8/8/8/8/8/8 x KQ e9 0 1", 2, -1);
    }

    private static void positionFaults() {
        fault("8/8/8/8/8/8/8/8 w - - 0 1", 7, -1);
        fault("4k3/8/8/8/8/8/8/8 w KQ - 0 1", 7, -1);
        fault("4k3/8/8/8/8/8/8/3KK3 w - - 0 1", 7, -1);
        fault("3kk3/8/8/8/8/8/8/4K3 w - - 0 1", 7, -1);
        fault("4k3/8/8/8/8/8/8/4K2P w K - 0 1", 8, -1);
        fault("4k2p/8/8/8/8/8/8/4K3 w - - 0 1", 8, -1);
        fault("4k2P/8/8/8/8/8/8/4K3 w - - 0 1", 8, -1);
        fault("4k3/8/8/8/8/8/8/4K2p w - - 0 1", 8, -1);
        fault("4k3/8/8/8/8/P7/PPPPPPPP/4K3 w - - 0 1", 8, -1);
        fault("4k3/pppppppp/p7/8/8/8/8/4K3 w - - 0 1", 8, -1);
        fault("4k3/8/8/8/8/NNN5/PPPPPPPP/4K3 w - - 0 1", 8, -1);
        right("4k3/8/8/8/8/NNN5/PPPPPPP1/4K3 w - - 0 1", 0);
        right("4k3/8/8/8/8/NN6/PPPPPPPP/Q3K3 w - - 0 1", 0);
        fault("4k3/8/8/8/8/8/PPPPPPPP/QQ2K3 w - - 0 1", 8, -1);
        fault("4k3/8/8/8/BBB5/RRR5/PPPPPPP1/4K3 w - - 0 1", 8, -1);
        right("7k/8/8/8/BB6/RRRR4/PPPPPP2/4K3 w - - 0 1", 0);
        right("7k/8/8/8/8/8/8/KQQQQQQ1 b - - 0 1", 0);
        fault("4k3/qqqqqqqq/qq6/8/8/8/8/7K b - - 0 1", 8, -1);
        fault("4k3/8/8/8/8/8/8/4K3 w K - 0 1", 9, -1);
        fault("4k3/8/8/8/8/8/8/R3K2R w Kk - 0 1", 9, -1);
        fault("4k3/8/8/8/8/8/8/R3K2R w Kq - 0 1", 9, -1);
        fault("4k3/8/8/8/8/8/8/R2K3R w K - 0 1", 9, -1);
        fault("4k3/8/8/8/8/8/8/4K2R w Q - 0 1", 9, -1);
        fault("4k3/8/8/8/8/8/8/4K2r w K - 0 1", 9, -1);
        right("k7/8/8/3p4/8/8/8/K7 w - d6 0 1", 0);
        right("k7/8/8/8/3P4/8/8/K7 b - d3 0 1", 0);
        fault("k7/8/8/3p4/8/8/8/K7 w - d6 1 1", 10, -1);
        fault("k7/8/8/3P4/8/8/8/K7 w - d6 0 1", 10, -1);
        fault("k7/8/8/8/3p4/8/8/K7 w - d6 0 1", 10, -1);
        fault("k7/8/3n4/3p4/8/8/8/K7 w - d6 0 1", 10, -1);
        fault("k7/3p4/8/3p4/8/8/8/K7 w - d6 0 1", 10, -1);
        fault("k7/8/8/3p4/8/8/8/K7 w - e6 0 1", 10, -1);
        fault("k7/8/8/8/3p4/8/8/K7 b - d3 0 1", 10, -1);
        fault("k7/8/8/8/3P4/3N4/8/K7 b - d3 0 1", 10, -1);
        fault("k7/8/8/8/8/8/8/KR5R w K e6 0 1", 9, -1);
        fault("k6R/8/8/8/8/8/8/K7 w - e6 0 1", 10, -1);
        attackedKings();
    }

    private static void attackedKings() {
        fault("k6R/8/8/8/8/8/8/K7 w - - 0 1", 11, -1);
        right("k6R/8/8/8/8/8/8/K7 b - - 0 1", 0);
        right("k1n4R/8/8/8/8/8/8/K7 w - - 0 1", 0);
        fault("7k/8/8/8/8/8/6b1/7K b - - 0 1", 11, -1);
        fault("8/8/8/8/8/8/kK6/8 w - - 0 1", 11, -1);
        fault("8/8/8/8/k7/1P6/8/K7 w - - 0 1", 11, -1);
        right("8/8/8/1P6/k7/8/8/K7 w - - 0 1", 0);
        fault("8/8/8/1p6/K7/8/8/7k b - - 0 1", 11, -1);
        right("8/8/8/8/K7/1p6/8/7k b - - 0 1", 0);
        fault("8/8/8/8/k7/2N5/8/K7 w - - 0 1", 11, -1);
        fault("8/8/8/8/k7/8/8/K2Q4 w - - 0 1", 11, -1);
        right("8/8/8/8/k7/8/2p5/K2Q4 w - - 0 1", 0);
    }

    private static void moveFaults() {
        String ended = "7k/5Q2/6K1/8/8/8/8/8 b - - 0 1";
        fault(ended + " Kg8", 20, 0);
        fault(ended + " ", 20, 0);
        fault("8/8/8/4k3/8/8/8/4K3 w - - 0 1 nonsense", 20, 0);
        fault("4k3/8/8/8/8/8/8/R3K3 w - - 149 80 Ra2 Kd8", 20, 1);
        fault(Hall.START + SHUFFLE + SHUFFLE + SHUFFLE + SHUFFLE + " e4", 20, 16);
        right(Hall.START + SHUFFLE + SHUFFLE + SHUFFLE + SHUFFLE, 16);
        for (String word : new String[] {"", "e", "4e", "E4", "e9", "i4", "ed4", "exd", "e4=Q", "e4K", "e4q", "e4+#", "e4!", "0-0-0-0", "0-",
            "O-O", "0-0#+", "N", "Nf", "N3", "Nxxf3", "Nf33", "Nff", "N3gf3", "Ngg1f3", "Pe4", "ne4", "Nf3Q", "xe4", "e2e4", "e2xd3",
            "Ng1-f3", "Nx", "+", "#", "e4\0", "Nf3\n", "Qa1xb2xx", "1e4", "kxe4", "e4 "}) {
            fault(Hall.START + " " + word, 21, word.equals("e4 ") ? 1 : 0);
        }
        fault(Hall.START + " e4 e5 ", 21, 2);
        fault(Hall.START + "  e4", 21, 0);
        for (String word : new String[] {"e5", "exd5", "e4Q", "Ne2", "Nf4", "Kf1", "0-0", "0-0-0+", "Qd3", "Ba1", "Ra1xa8#", "Ng1f5"}) {
            fault(Hall.START + " " + word, 22, 0);
        }
        fault("k7/4P3/8/8/8/8/8/K7 w - - 0 1 e8", 22, 0);
        fault(ROOKS + " w KQkq - 0 1 Kg1", 22, 0);
        fault(ROOKS + " w kq - 0 1 0-0", 22, 0);
        for (String word : new String[] {"exe4", "dxe4", "exd3", "Nxf3", "Ngf3", "N1f3", "Ng1f3", "Nf3xf3", "Nbf3", "Nha3"}) {
            fault(Hall.START + " " + word, 23, 0);
        }
        fault(ROOKS + " w KQ - 0 1 Rhg1", 23, 0);
        fault(ROOKS + " w - - 0 1 Kxf1", 23, 0);
        fault("k7/8/8/2ppP3/8/8/8/K7 w - d6 0 1 d6", 23, 0);
        for (String word : new String[] {"e4+", "e4#", "Nf3+", "Nf3#"}) {
            fault(Hall.START + " " + word, 24, 0);
        }
        fault(Hall.START + " f3 e5 g4 Qh4", 24, 3);
        fault(Hall.START + " f3 e5 g4 Qh4+", 24, 3);
        right(Hall.START + " f3 e5 g4 Qh4#", 4);
        fault("5k2/8/8/8/8/8/8/4K2R w K - 0 1 0-0", 24, 0);
        right("5k2/8/8/8/8/8/8/4K2R w K - 0 1 0-0+", 1);
    }

    private static void longText() {
        right(Hall.longText(599), 599);
        right(Hall.longText(600), 600);
        fault(Hall.longText(601), 20, 600);
        fault(Hall.longText(600) + " ", 20, 600);
        GameHall full = Hall.with(Hall.longText(600));
        Hall.due("4: it goes on", 0, full.status(4) >= 1 && full.status(4) <= 5 ? 1 : 0);
        Hall.dueThrows("4: proceed behind 600 moves", STATE, () -> full.proceed(0));
        Hall.dueThrows("4: proceed to none behind 600 moves", STATE, () -> full.proceed(-1));
        Hall.due("4: positions", 601, full.status(3));
        Hall.due("5: retreat", 1, full.retreat() ? 1 : 0);
        full.proceed(0);
        Hall.due("4: positions again", 601, full.status(3));
        Hall.dueThrows("4: proceed behind 600 moves again", STATE, () -> full.proceed(0));
    }

    private static void proceed() {
        GameHall hall = Hall.with(Hall.START);
        Hall.dueThrows("4: proceed 20", INDEX, () -> hall.proceed(20));
        Hall.dueThrows("4: proceed -1", INDEX, () -> hall.proceed(-1));
        Hall.dueThrows("4: proceed far", INDEX, () -> hall.proceed(Integer.MAX_VALUE));
        Hall.due("4: nothing changes", Hall.START, Hall.record(hall));
        Hall.due("4: f3", 0, Hall.play(hall, "f3"));
        Hall.due("4: e5", 0, Hall.play(hall, "e5"));
        Hall.due("4: g4", 0, Hall.play(hall, "g4"));
        Hall.due("4: Qh4#", 1, Hall.play(hall, "Qh4#"));
        Hall.dueThrows("4: proceed behind mate", STATE, () -> hall.proceed(0));
        Hall.due("4: record", "rnb1kbnr/pppp1ppp/8/4p3/6Pq/5P2/PPPPP2P/RNBQKBNR w KQkq - 1 3", Hall.record(hall));
        GameHall rook = Hall.with("4k3/8/8/8/8/8/8/R3K3 w - - 149 80");
        Hall.due("4: clock 150", 5, Hall.play(rook, "Ra2"));
        Hall.due("4: there are moves", 5, rook.legalMany());
        Hall.dueThrows("4: proceed behind the end", STATE, () -> rook.proceed(0));
        Hall.dueThrows("4: proceed to none behind the end", STATE, () -> rook.proceed(99));
    }

    private static void verdict(String record, int verdict) {
        Hall.due("verdict of " + record, verdict, Hall.with(record).status(4));
    }

    private static void verdicts() {
        verdict("7k/6Q1/6K1/8/8/8/8/8 b - - 150 1", 1);
        verdict("7k/5Q2/6K1/8/8/8/8/8 b - - 150 1", 2);
        verdict("8/8/8/4k3/8/8/8/4K3 w - - 150 1", 3);
        verdict("8/8/8/4k3/8/8/8/4KB2 w - - 0 1", 3);
        verdict("8/8/8/4k3/8/8/8/4Kn2 w - - 0 1", 3);
        verdict("8/8/8/4k3/8/8/8/4KN1N w - - 0 1", 0);
        verdict("8/8/8/4k3/8/8/8/4KN1n w - - 0 1", 0);
        verdict("8/8/8/4k3/8/8/8/4KB1b w - - 0 1", 3);
        verdict("8/8/8/4k3/8/8/8/4KBb1 w - - 0 1", 0);
        verdict("8/8/8/4k3/8/8/8/4KB1B w - - 0 1", 0);
        verdict("8/8/8/4k3/8/8/8/4KB1n w - - 0 1", 0);
        verdict("8/8/8/4k3/8/8/4P3/4K3 w - - 0 1", 0);
        verdict("8/8/8/4k3/8/8/8/4K2R w - - 99 1", 0);
        verdict("8/8/8/4k3/8/8/8/4K2R w - - 100 1", 7);
        verdict("8/8/8/4k3/8/8/8/4K2R w - - 149 1", 7);
        verdict("8/8/8/4k3/8/8/8/4K2R w - - 150 1", 5);
        verdict("8/8/8/4k3/8/8/8/4K2R w - - 999 1", 5);
        GameHall hall = Hall.with(Hall.START + SHUFFLE);
        Hall.due("twice", 0, hall.status(4));
        String[] moves = {"Nf3", "Nf6", "Ng1", "Ng8"};
        int[] due = {0, 0, 0, 6, 6, 6, 6, 6, 6, 6, 6, 4};
        for (int k = 0; k < due.length; k++) {
            Hall.due("shuffle " + k, due[k], Hall.play(hall, moves[k % 4]));
        }
        Hall.dueThrows("4: proceed behind five times", STATE, () -> hall.proceed(0));
        GameHall both = Hall.with(Hall.START.replace(" 0 1", " 92 50") + SHUFFLE + SHUFFLE);
        Hall.due("count and clock", 8, both.status(4));
        GameHall late = Hall.with(Hall.START.replace(" 0 1", " 134 50") + SHUFFLE + SHUFFLE + SHUFFLE);
        Hall.due("four times, clock 146", 8, late.status(4));
        Hall.due("clock 147", 8, Hall.play(late, "Nf3"));
        Hall.due("clock 148", 8, Hall.play(late, "Nf6"));
        Hall.due("clock 149", 8, Hall.play(late, "Ng1"));
        Hall.due("five times before the clock", 4, Hall.play(late, "Ng8"));
        GameHall mate = Hall.with("7k/8/6K1/8/8/8/8/R7 w - - 149 90 Ra8#");
        Hall.due("mate before the clock", 1, mate.status(4));
    }

    private static void retreat() {
        GameHall hall = Hall.with(Hall.START);
        Hall.due("5: nothing to take back", 0, hall.retreat() ? 1 : 0);
        GameHall mated = Hall.with(Hall.START + " f3 e5 g4 Qh4#");
        Hall.due("5: mate is taken back", 1, mated.retreat() ? 1 : 0);
        Hall.due("5: it goes on", 0, mated.status(4));
        Hall.due("5: record", "rnbqkbnr/pppp1ppp/8/4p3/6P1/5P2/PPPPP2P/RNBQKBNR b KQkq - 0 2", Hall.record(mated));
        Hall.due("5: another move", 0, Hall.play(mated, "d5"));
        for (int k = 4; k > 0; k--) {
            Hall.due("5: retreat " + k, 1, mated.retreat() ? 1 : 0);
            Hall.due("5: positions", k, mated.status(3));
        }
        Hall.due("5: none left", 0, mated.retreat() ? 1 : 0);
        Hall.due("5: the first record", Hall.START, Hall.record(mated));
        Hall.due("5: its list", 20, mated.legalMany());
        for (String move : new String[] {"exd6", "bxa8Q+", "bxa8N", "0-0", "0-0-0", "Rxh8+", "Ke2", "Rxa8+"}) {
            GameHall rich = Hall.with("r3k2r/1P6/8/3pP3/8/8/8/R3K2R w KQkq d6 0 5");
            String before = Hall.record(rich);
            String list = Hall.spellings(rich);
            Hall.play(rich, move);
            Hall.due("5: " + move, 1, rich.retreat() ? 1 : 0);
            Hall.due("5: record before " + move, before, Hall.record(rich));
            Hall.due("5: list before " + move, list, Hall.spellings(rich));
            Hall.due("5: value before " + move, 1, rich.valueAt(0));
        }
        GameHall five = Hall.with(Hall.START + SHUFFLE + SHUFFLE + SHUFFLE + SHUFFLE);
        Hall.due("5: five times", 4, five.status(4));
        five.retreat();
        Hall.due("5: four times", 6, five.status(4));
        Hall.due("5: greatest count", 4, five.status(12));
        Hall.due("4: it may go on otherwise", 0, Hall.play(five, "Nd5"));
    }

    private static void legal() {
        GameHall hall = Hall.with(Hall.START);
        Hall.due("6: start", 20, hall.legalMany());
        Hall.dueThrows("7: -1", INDEX, () -> hall.legalMove(-1));
        Hall.dueThrows("7: 20", INDEX, () -> hall.legalMove(20));
        Hall.due("7: Na3", 1 + 64 * 16, hall.legalMove(0));
        Hall.due("7: a3", 8 + 64 * 16, hall.legalMove(4));
        Hall.due("6: the most", 218, Hall.with("3Q4/1Q4Q1/4Q3/2Q4R/Q4Q2/3Q4/1Q4Rp/1K1BBNNk w - - 0 1").legalMany());
        Hall.due("6: mate", 0, Hall.with("7k/6Q1/6K1/8/8/8/8/8 b - - 0 1").legalMany());
        GameHall grows = Hall.with("1n5k/P7/8/8/8/8/8/K7 w - - 0 1");
        int[] due = {64, 64 * 8, 64 * 9, 48 + 64 * 56 + 4096 * 2, 48 + 64 * 56 + 4096 * 3, 48 + 64 * 56 + 4096 * 4,
            48 + 64 * 56 + 4096 * 5, 48 + 64 * 57 + 4096 * 2, 48 + 64 * 57 + 4096 * 3, 48 + 64 * 57 + 4096 * 4,
            48 + 64 * 57 + 4096 * 5};
        Hall.due("6: promotions", due.length, grows.legalMany());
        for (int i = 0; i < due.length; i++) {
            Hall.due("7: promotions " + i, due[i], grows.legalMove(i));
        }
        Hall.due("pins", "Kd1 Kf1 Kd2 Kf2 Re3 Re4 Re5 Re6 Re7 Rxe8+",
                Hall.spellings(Hall.with("k3r3/8/8/8/8/8/4R3/4K3 w - - 0 1")));
        Hall.due("two checks", "Kf1 Kf2", Hall.spellings(Hall.with("4r2k/8/8/8/8/2n2n2/Q7/4K3 w - - 0 1")));
        Hall.due("a check is met", "Ka2 Kb2 Rg1 Bc1 Bg1",
                Hall.spellings(Hall.with("7k/8/8/8/8/4B3/6R1/K6r w - - 0 1")));
    }

    private static void castles(String record, String due) {
        StringBuilder found = new StringBuilder();
        for (String word : Hall.spellings(Hall.with(record)).split(" ")) {
            found.append(word.startsWith("0") ? word + " " : "");
        }
        Hall.due("castling in " + record, due, found.toString().trim());
    }

    private static void castling() {
        castles(ROOKS + " w KQkq - 0 1", "0-0-0 0-0");
        castles(ROOKS + " b KQkq - 0 1", "0-0-0 0-0");
        castles(ROOKS + " w Qkq - 0 1", "0-0-0");
        castles(ROOKS + " b KQk - 0 1", "0-0");
        castles(ROOKS + " b KQ - 0 1", "");
        castles("4k3/8/8/8/8/8/8/RN2K1NR w KQ - 0 1", "");
        castles("1r2k3/8/8/8/8/8/8/R3K2R w KQ - 0 1", "0-0-0 0-0");
        castles("2r1k3/8/8/8/8/8/8/R3K2R w KQ - 0 1", "0-0");
        castles("3rk3/8/8/8/8/8/8/R3K2R w KQ - 0 1", "0-0");
        castles("3k1r2/8/8/8/8/8/8/R3K2R w KQ - 0 1", "0-0-0+");
        castles("3k2r1/8/8/8/8/8/8/R3K2R w KQ - 0 1", "0-0-0+");
        castles("3k3r/8/8/8/8/8/8/R3K2R w KQ - 0 1", "0-0-0+ 0-0");
        castles("3kr3/8/8/8/8/8/8/R3K2R w KQ - 0 1", "");
        castles("8/8/8/8/8/8/6k1/R3K2R w KQ - 0 1", "0-0-0");
        castles("3k4/8/8/8/8/8/4p3/R3K2R w KQ - 0 1", "");
        GameHall hall = Hall.with(ROOKS + " w KQkq - 3 7 0-0 0-0-0");
        Hall.due("castled", "2kr3r/8/8/8/8/8/8/R4RK1 w - - 5 8", Hall.record(hall));
        rights("Ke2", 12);
        rights("Ra2", 13);
        rights("Rh2", 14);
        rights("Rxa8+", 5);
        rights("Rxh8+", 10);
        rights("Rh3 Ra2 Rh1", 6);
        rights("0-0-0 Ke7", 0);
        rights("Kd1 Kd8 Ke1 Ke8", 0);
    }

    private static void rights(String moves, int due) {
        Hall.due("rights behind " + moves, due, Hall.with(ROOKS + " w KQkq - 0 1 " + moves).status(6));
    }

    private static void inPassing() {
        Hall.due("passant beside a pawn", 4, Hall.with("4k3/8/8/8/3p4/8/4P3/4K3 w - - 0 1 e4").status(7));
        Hall.due("passant beside none", -1, Hall.with("4k3/8/8/8/3P4/8/4P3/4K3 w - - 0 1 e4").status(7));
        Hall.due("no passant round the edge", -1, Hall.with("4k3/8/8/7p/8/8/P7/4K3 w - - 0 1 a4").status(7));
        Hall.due("no passant for one rank", -1, Hall.with("4k3/8/8/8/8/3p4/4P3/4K3 w - - 0 1 e3").status(7));
        Hall.due("black's passant", 6, Hall.with("4k3/6p1/8/5P2/8/8/8/4K3 b - - 0 1 g5").status(7));
        GameHall hall = Hall.with("4k3/8/8/8/3p4/8/4P3/4K3 w - - 5 1 e4 dxe3");
        Hall.due("taken in passing", "4k3/8/8/8/8/4p3/8/4K3 w - - 0 2", Hall.record(hall));
        Hall.due("men", 3, hall.status(10));
        fault("4k3/8/8/8/3p4/8/4P3/4K3 w - - 0 1 e4 Kd8 Kd1 dxe3", 22, 3);
        GameHall pinned = Hall.with("8/8/8/K1pP3r/8/8/8/7k w - c6 0 3");
        Hall.due("the king stands on the rank: passant", 2, pinned.status(7));
        Hall.due("the king stands on the rank: none takes", -1, pinned.historyOf(0, 7));
        Hall.due("the king stands on the rank: list", -1, Hall.place(pinned, "dxc6"));
        GameHall told = Hall.with("k7/8/8/3p4/8/8/8/K7 w - d6 0 9");
        Hall.due("a record's passant that none can use", 3, told.status(7));
        Hall.due("it is written", "k7/8/8/3p4/8/8/8/K7 w - d6 0 9", Hall.record(told));
        Hall.due("none takes", -1, told.historyOf(0, 7));
        // The passant that nobody can use legally does not make a position another one.
        GameHall same = Hall.with("8/8/8/K1pP3r/8/8/8/7k w - c6 0 3 Ka6 Rh6+ Ka5 Rh5");
        Hall.due("the same without a use of the passant", 2, same.historyOf(4, 0));
        Hall.due("first", 0, same.historyOf(4, 6));
        GameHall other = Hall.with("8/8/8/2pP4/8/K7/8/7k w - c6 0 3 Ka4 Kg1 Ka3 Kh1");
        Hall.due("another one with a use of it", 1, other.historyOf(4, 0));
        Hall.due("the file", 2, other.historyOf(0, 7));
        Hall.due("the file then", -1, other.historyOf(4, 7));
    }

    private static void spelled(String record, String due) {
        Hall.due("8: " + record, due, Hall.spellings(Hall.with(record)));
    }

    private static void spelling() {
        GameHall hall = Hall.with(Hall.START);
        Hall.due("8: first character highest", 0x4E61330000000000L, hall.spelling(0));
        Hall.dueThrows("8: -1", INDEX, () -> hall.spelling(-1));
        Hall.dueThrows("8: 20", INDEX, () -> hall.spelling(20));
        spelled("7k/8/8/8/8/8/8/K3N1N1 w - - 0 1", "Kb1 Ka2 Kb2 Nc2 Ng2 Nd3 Nef3 Ne2 Ngf3 Nh3");
        spelled("7k/8/8/8/4N3/8/4N3/K7 w - - 0 1",
                "Kb1 Ka2 Kb2 Nc1 Ng1 N2c3 N2g3 Nd4 Nf4 Nd2 Nf2 N4c3 N4g3 Nc5 Ng5 Nd6 Nf6");
        GameHall three = Hall.with("7k/8/8/1N3N2/8/8/1N6/7K w - - 0 1");
        has("file", three, "Nfd4");
        GameHall queens = Hall.with("8/8/8/k7/4Q2Q/8/8/K6Q w - - 0 1");
        has("file and rank", queens, "Qh4e1+");
        has("rank", queens, "Q1e1+");
        has("file", queens, "Qee1+");
        GameHall pinned = Hall.with("4k3/8/8/8/1b6/2N5/8/4K1N1 w - - 0 1");
        has("a pinned rival is none", pinned, "Ne2");
        spelled("1n5k/P7/8/8/8/8/8/K7 w - - 0 1",
                "Kb1 Ka2 Kb2 a8N a8B a8R a8Q axb8N axb8B axb8R+ axb8Q+");
        GameHall mates = Hall.with("6k1/5ppp/8/8/8/8/8/K2R4 w - - 0 1");
        has("mate", mates, "Rd8#");
        GameHall castle = Hall.with("5k2/8/8/8/8/8/8/4K2R w K - 0 1");
        has("castling with check", castle, "0-0+");
        GameHall rich = Hall.with("r3k2r/1P6/8/3pP3/8/8/8/R3K2R w KQkq d6 0 5");
        has("in passing", rich, "exd6");
        has("taking and becoming", rich, "bxa8Q+");
        has("becoming without check", rich, "b8N");
        has("the longest", Hall.with("8/8/8/k7/4Q2Q/8/8/K3n2Q w - - 0 1"), "Qh4xe1+");
    }

    private static void has(String what, GameHall hall, String spelling) {
        Hall.due("8: " + what + ", " + spelling, 1, Hall.place(hall, spelling) >= 0 ? 1 : 0);
    }

    private static void recordAt() {
        GameHall hall = Hall.with(Hall.START);
        Hall.due("9: 0", "rnbqkbnr", Hall.text(hall.recordAt(0)));
        Hall.due("9: 6", "kq - 0 1", Hall.text(hall.recordAt(6)));
        for (int k : new int[] {-1, 7, 8, 12, 13, 100, Integer.MAX_VALUE, Integer.MIN_VALUE, 1 << 29, -(1 << 29)}) {
            Hall.due("9: " + k, 0, hall.recordAt(k));
        }
        Hall.due("9: 0 behind the end", 0x202D203020310000L, Hall.with("4k3/8/8/8/8/8/8/4K2R w - - 0 1").recordAt(3));
        String record = "r1b1k1nr/p1p1p1p1/1p1p1p1p/R1B1Q1N1/P1P1P1P1/1P1P1P1P/N1B5/R3K2q w Qkq - 999 9999";
        Hall.due("9: a long record", record, Hall.record(Hall.with(record)));
        GameHall late = Hall.with("r3k2r/8/8/8/8/8/8/R3K2R b KQkq - 97 9999 Ra7 Ra2 Rhh7");
        Hall.due("9: a number beyond a text's", "4k3/r6r/8/8/8/8/R7/4K2R w K - 100 10001", Hall.record(late));
        Hall.due("9: passant", "4k3/8/8/8/3pP3/8/8/4K3 b - e3 0 1",
                Hall.record(Hall.with("4k3/8/8/8/3p4/8/4P3/4K3 w - - 0 1 e4")));
    }

    private static void manOn() {
        GameHall hall = Hall.with("rnbqk3/p7/8/8/8/8/P7/RNBQK3 w - - 0 1");
        int[] white = {4, 2, 3, 5, 6, 0, 0, 0, 1, 0};
        int[] black = {10, 8, 9, 11, 12, 0, 0, 0};
        for (int square = 0; square < white.length; square++) {
            Hall.due("10: " + square, white[square], hall.manOn(square));
        }
        for (int file = 0; file < 8; file++) {
            Hall.due("10: " + (56 + file), black[file], hall.manOn(56 + file));
        }
        Hall.due("10: a7", 7, hall.manOn(48));
        for (int square : new int[] {-1, 64, Integer.MAX_VALUE, Integer.MIN_VALUE}) {
            Hall.due("10: " + square, -1, hall.manOn(square));
        }
    }

    private static void lines(String record, int depth, long due) {
        Hall.due("11: " + depth + " of " + record, due, Hall.with(record).linesTo(depth));
    }

    private static void linesTo() {
        lines(Hall.START, 0, 1);
        lines(Hall.START, 1, 20);
        lines(Hall.START, 2, 400);
        lines(Hall.START, 3, 8902);
        String many = "r3k2r/p1ppqpb1/bn2pnp1/3PN3/1p2P3/2N2Q1p/PPPBBPPP/R3K2R w KQkq - 0 1";
        lines(many, 1, 48);
        lines(many, 2, 2039);
        lines("8/2p5/3p4/KP5r/1R3p1k/8/4P1P1/8 w - - 0 1", 3, 2812);
        lines("r3k2r/Pppp1ppp/1b3nbN/nP6/BBP1P3/q4N2/Pp1P2PP/R2Q1RK1 w kq - 0 1", 3, 9467);
        lines("rnbq1k1r/pp1Pbppp/2p5/8/2B5/8/PPP1NnPP/RNBQK2R w KQ - 1 8", 2, 1486);
        lines("r4rk1/1pp1qppp/p1np1n2/2b1p1B1/2B1P1b1/P1NP1N2/1PP1QPPP/R4RK1 w - - 0 10", 2, 2079);
        lines("7k/6Q1/6K1/8/8/8/8/8 b - - 0 1", 0, 1);
        lines("7k/6Q1/6K1/8/8/8/8/8 b - - 0 1", 3, 0);
        GameHall hall = Hall.with(many);
        Hall.dueThrows("11: 3 with 48 moves", ARGUMENT, () -> hall.linesTo(3));
        Hall.dueThrows("11: -1", ARGUMENT, () -> hall.linesTo(-1));
        GameHall few = Hall.with("8/8/8/8/8/2k5/7R/2K5 w - - 0 1");
        Hall.dueThrows("11: 4 with few men", ARGUMENT, () -> few.linesTo(4));
        lines("8/8/8/8/8/2k5/7B/2K5 w - - 0 1", 3, 563);
        thirty();
    }

    /** The edge of 30 and 31 moves. */
    private static void thirty() {
        String record = "7k/8/8/3Q4/8/8/P7/K7 w - - 0 1";
        GameHall thirty = Hall.with(record);
        Hall.due("moves", 30, thirty.legalMany());
        Hall.due("11: 3 with 30 moves", Oracle.read(record).game.get(0).lines(3), thirty.linesTo(3));
        Hall.due("12: 3 with 30 moves", 10, thirty.valueAt(3));
        GameHall over = Hall.with("7k/8/8/3Q4/8/8/PP6/K7 w - - 0 1");
        Hall.due("moves", 31, over.legalMany());
        Hall.dueThrows("11: 3 with 31 moves", ARGUMENT, () -> over.linesTo(3));
        Hall.dueThrows("12: 3 with 31 moves", ARGUMENT, () -> over.valueAt(3));
        Hall.dueThrows("13: 3 with 31 moves", ARGUMENT, () -> over.bestAt(3));
    }

    private static void value(String record, int depth, int value, int best) {
        Hall.due("12: " + depth + " of " + record, value, Hall.with(record).valueAt(depth));
        Hall.due("13: " + depth + " of " + record, best, Hall.with(record).bestAt(depth));
    }

    private static int placeOf(String record, String spelling) {
        return Hall.place(Hall.with(record), spelling);
    }

    private static void valueAt() {
        value(Hall.START, 0, 0, -1);
        value("k7/8/8/8/8/8/PNBRQ3/K7 w - - 0 1", 0, 21, -1);
        value("k7/8/8/8/8/8/PNBRQ3/K7 b - - 0 1", 0, -21, -1);
        value("7k/6Q1/6K1/8/8/8/8/8 b - - 0 1", 0, -1000, -1);
        value("7k/6Q1/6K1/8/8/8/8/8 b - - 0 1", 3, -1000, -1);
        value("7k/5Q2/6K1/8/8/8/8/8 b - - 0 1", 0, 0, -1);
        value("7k/5Q2/6K1/8/8/8/8/8 b - - 0 1", 4, 0, -1);
        // Mate in one is 999, being mated in one -998, mate in two 997, and so on.
        value("k7/8/1K6/8/8/8/8/7R w - - 0 1", 1, 999, 13);
        value("k7/8/1K6/8/8/8/8/7R w - - 0 1", 4, 999, 13);
        value("1k6/8/1K6/8/8/8/8/7R w - - 0 1", 1, 999, placeOf("1k6/8/1K6/8/8/8/8/7R w - - 0 1", "Rh8#"));
        value("k7/8/2K5/8/8/8/8/7R b - - 0 1", 2, -5, 0);
        value("7k/5K2/8/8/8/8/8/6R1 b - - 0 1", 2, -998, 0);
        value("7k/5K2/8/8/8/8/8/6R1 b - - 0 1", 1, -5, 0);
        value("k7/7R/8/8/8/8/8/K5R1 w - - 0 1", 1, 999, placeOf("k7/7R/8/8/8/8/8/K5R1 w - - 0 1", "Rg8#"));
        String[] wide = {"r3k2r/p1ppqpb1/bn2pnp1/3PN3/1p2P3/2N2Q1p/PPPBBPPP/R3K2R w KQkq - 0 1", Hall.START};
        for (String record : wide) {
            GameHall hall = Hall.with(record);
            Hall.dueThrows("12: -1", ARGUMENT, () -> hall.valueAt(-1));
            Hall.dueThrows("12: 4", ARGUMENT, () -> hall.valueAt(4));
            Hall.dueThrows("13: -1", ARGUMENT, () -> hall.bestAt(-1));
            Hall.dueThrows("13: 4", ARGUMENT, () -> hall.bestAt(4));
        }
        GameHall queen = Hall.with("7k/8/8/3Q4/8/8/8/K7 w - - 0 1");
        Hall.due("12: three men, 4", 9, queen.valueAt(4));
        Hall.dueThrows("12: three men, 5", ARGUMENT, () -> queen.valueAt(5));
        Hall.dueThrows("12: three men, -1", ARGUMENT, () -> queen.valueAt(-1));
        GameHall four = Hall.with("7k/p7/8/8/8/8/8/KR6 w - - 0 1");
        Hall.dueThrows("12: four men, 4", ARGUMENT, () -> four.valueAt(4));
        // The greatest of all is taken first in the list, though a later one is as good.
        value("k7/8/8/8/8/p7/8/K7 w - - 0 1", 1, -1, 0);
        value("7k/8/8/8/8/1p6/8/K1N5 w - - 0 1", 1, 3, placeOf("7k/8/8/8/8/1p6/8/K1N5 w - - 0 1", "Nxb3"));
    }

    private static void bestAt() {
        GameHall hall = Hall.with(Hall.START + " e4 e5 Nf3 f6 Nxe5 fxe5");
        Hall.due("13: the record stays", "rnbqkbnr/pppp2pp/8/4p3/4P3/8/PPPP1PPP/RNBQKB1R w KQkq - 0 4", Hall.record(hall));
        Hall.due("13: nothing is won at once", 0, hall.bestAt(1));
        Hall.due("13: and it stays", "rnbqkbnr/pppp2pp/8/4p3/4P3/8/PPPP1PPP/RNBQKB1R w KQkq - 0 4", Hall.record(hall));
        GameHall dead = Hall.with("8/8/8/4k3/8/8/8/4KB2 w - - 999 1");
        Hall.due("13: an ended game has values", 3, dead.valueAt(2));
        Hall.due("13: and a best move", 0, dead.bestAt(2));
    }

    private static void mate(String record, int distance, int place) {
        GameHall hall = Hall.with(record);
        Hall.due("14: " + record, distance, hall.distanceToMate());
        Hall.due("15: " + record, place, hall.matingMove());
    }

    private static void distanceToMate() {
        mate("8/8/8/8/8/2k5/7R/2K5 w - - 0 1", 23, 6);
        mate("4k3/8/8/8/8/8/4P3/4K3 w - - 0 1", 43, 2);
        mate("4k3/4p3/8/8/8/8/8/4K3 b - - 0 1", 43, 2);
        mate("7k/6Q1/6K1/8/8/8/8/8 b - - 0 1", 0, -1);
        mate("7k/5Q2/6K1/8/8/8/8/8 b - - 0 1", -1, -1);
        mate("8/8/8/8/8/2k5/7B/2K5 w - - 0 1", -1, -1);
        mate("8/8/8/8/8/2k5/7N/2K5 w - - 0 1", -1, -1);
        mate("8/8/8/8/8/2k5/8/2K5 w - - 0 1", -1, -1);
        mate("8/8/8/8/8/2k5/6RR/2K5 w - - 0 1", -1, -1);
        mate(Hall.START, -1, -1);
        mate("4k2r/8/8/8/8/8/8/4K3 b k - 0 1", -1, -1);
        mate("8/8/8/8/8/8/1k6/R5K1 b - - 0 1", -1, -1);
        mate("k7/8/8/8/4P3/8/8/K7 b - e3 0 1", Hall.with("k7/8/8/8/4P3/8/8/K7 b - - 0 1").distanceToMate(),
                Hall.with("k7/8/8/8/4P3/8/8/K7 b - - 0 1").matingMove());
        mate("8/8/8/8/8/k7/p7/K7 w - - 0 1", -1, -1);
        // Only a rook mates here, or mates so soon: a queen would be stalemate.
        mate("8/1P6/k7/8/1K6/8/8/8 w - - 0 1", 13, 8);
        mate("8/8/8/k7/8/K7/1p6/8 b - - 0 1", 13, 2);
        mate("8/6P1/8/8/8/8/2K5/k7 w - - 0 1", 3, 8);
    }

    private static void matingMove() {
        GameHall hall = Hall.with("4k3/8/8/8/8/8/4P3/4K3 w - - 0 1");
        int distance = hall.distanceToMate();
        for (int left = distance; left > 0; left--) {
            Hall.due("14: on the way", left, hall.distanceToMate());
            hall.proceed(hall.matingMove());
        }
        Hall.due("15: mate in the end", 1, hall.status(4));
        Hall.due("15: no move then", -1, hall.matingMove());
        Hall.due("15: rights are lost by a move", 0, Hall.with("4k2r/8/8/8/8/8/8/4K3 b k - 0 1 Rg8").distanceToMate() > 0 ? 0 : 1);
    }

    private static void historyOf() {
        GameHall hall = Hall.with("4k3/8/8/8/3p4/8/4P3/R3K3 w Q - 99 1 Ra8+ Kd7 Ra1 Ke8 e4 Kd7");
        int[][] due = {
            {1, 99, 0, -1, 17, 0, 0, -1},
            {1, 100, 7, 64 * 56, 3, 1, 1, -1},
            {1, 101, 7, 60 + 64 * 51, 20, 0, 2, -1},
            {1, 102, 7, 56, 9, 0, 3, -1},
            {1, 103, 7, 51 + 64 * 60, 16, 0, 4, -1},
            {1, 0, 0, 12 + 64 * 28, 7, 0, 5, 4},
            {1, 1, 0, 60 + 64 * 51, 16, 0, 6, -1}};
        Hall.due("16: positions", due.length, hall.status(3));
        for (int i = 0; i < due.length; i++) {
            for (int w = 0; w < 8; w++) {
                Hall.due("16: " + i + " " + w, due[i][w], hall.historyOf(i, w));
            }
        }
        int[][] none = {{-1, 0}, {7, 0}, {0, -1}, {0, 8}, {Integer.MAX_VALUE, 0}, {0, Integer.MAX_VALUE}, {Integer.MIN_VALUE, 1}};
        for (int[] call : none) {
            Hall.dueThrows("16: " + call[0] + " " + call[1], INDEX, () -> hall.historyOf(call[0], call[1]));
        }
        hall.retreat();
        Hall.dueThrows("16: taken back", INDEX, () -> hall.historyOf(6, 0));
        Hall.due("16: still there", 7, hall.historyOf(1, 2));
        GameHall again = Hall.with(Hall.START + SHUFFLE + SHUFFLE + " Nf3");
        Hall.due("16: count", 3, again.historyOf(8, 0));
        Hall.due("16: first", 0, again.historyOf(8, 6));
        Hall.due("16: count of another", 3, again.historyOf(9, 0));
        Hall.due("16: first of another", 1, again.historyOf(9, 6));
    }

    private static void status() {
        GameHall hall = new GameHall(1);
        Hall.submit(hall, Hall.START + " e4 e5 Qh6");
        Hall.due("17: fault", 22, hall.status(1));
        Hall.due("17: move", 2, hall.status(2));
        hall.retreat();
        hall.tape(1, 2, 3, 4, 5);
        Hall.dueThrows("17: submit 0", ARGUMENT, () -> hall.submit(0));
        Hall.due("17: fault, whatever was called since", 22, hall.status(1));
        Hall.due("17: move, whatever was called since", 2, hall.status(2));
        Hall.due("17: bytes", 20, hall.status(0));
        hall.submit(20);
        Hall.due("17: fault of a record", 1, hall.status(1));
        Hall.due("17: no move", -1, hall.status(2));
        Hall.due("17: none taken", 0, hall.status(13));
        Hall.submit(hall, "4k3/8/8/8/3p4/8/4P3/4K3 w - - 9 41 e4");
        int[] due = {0, 0, -1, 2, 0, 1, 0, 4, 0, 41, 4, 2, 1, 1, -1};
        for (int which = 0; which < due.length; which++) {
            Hall.due("17: " + which, due[which], hall.status(which));
        }
        for (int which : new int[] {-1, 14, 15, Integer.MAX_VALUE, Integer.MIN_VALUE}) {
            Hall.due("17: " + which, -1, hall.status(which));
        }
        GameHall again = Hall.with(Hall.START + SHUFFLE + SHUFFLE + " Nf3");
        Hall.due("17: different ones", 4, again.status(11));
        Hall.due("17: greatest count", 3, again.status(12));
        Hall.submit(again, Hall.START);
        Hall.due("17: different ones of a new game", 1, again.status(11));
        Hall.due("17: greatest count of a new game", 1, again.status(12));
        Hall.due("17: taken", 2, again.status(13));
    }
}
