import java.util.List;

/**
 * The sentences under promises 1 to 10, 16 and 17, on the order of exceptions and on the number of
 * calls: a test for each, on both sides of its boundary, and that a refused call changes nothing.
 */
public final class CallEdgeTest {
    private static final Class<IllegalStateException> STATE = IllegalStateException.class;
    private static final Class<IllegalArgumentException> ARGUMENT = IllegalArgumentException.class;
    private static final Class<IndexOutOfBoundsException> INDEX = IndexOutOfBoundsException.class;
    private static final int LEAST = Integer.MIN_VALUE;
    private static final int MOST = Integer.MAX_VALUE;
    private static final String SHUFFLE = " Nf3 Nf6 Ng1 Ng8";
    private static final String SMALL = "4k3/8/8/8/3p4/8/4P3/4K3 w - - 5 7";
    private static final String THIRTY_AND_MORE = "r3k2r/p1ppqpb1/bn2pnp1/3PN3/1p2P3/2N2Q1p/PPPBBPPP/R3K2R w KQkq - 0 1";
    /** Texts whose games have ended, by the verdicts 1 to 5, each by its last move. */
    private static final String[] ENDED = {
        Hall.START + " f3 e5 g4 Qh4#",
        "7k/8/6K1/8/8/8/8/5Q2 w - - 0 1 Qf7",
        "4k3/8/8/8/8/8/3p4/4K3 w - - 0 1 Kxd2",
        Hall.START + SHUFFLE + SHUFFLE + SHUFFLE + SHUFFLE,
        "4k3/8/8/8/8/8/8/R3K3 w - - 149 80 Ra2"};

    private CallEdgeTest() {
    }

    public static void main(String[] args) {
        manyCalls();
        firstException();
        constant();
        askingChangesNothing();
        newObject();
        slots();
        tapeOrder();
        tapeFull();
        fullTapeStaysAsItIs();
        submitCuts();
        submitOfNothing();
        submitEmptiesTheTape();
        submitTakes();
        submitRefuses();
        submitThrows();
        proceedMakes();
        proceedAnswers();
        proceedWithoutGame();
        proceedBehindTheEnd();
        proceedBehindSixHundred();
        proceedOutside();
        retreats();
        retreatsFromTheEnd();
        retreatOfNone();
        legalMany();
        legalMove();
        spelling();
        recordWords();
        recordOutside();
        recordBeyondATexts();
        manOn();
        historyFacts();
        historyFirst();
        historyOutside();
        statusOfTexts();
        statusOfGames();
        statusOfCounts();
        statusOutside();
        Hall.end("CallEdgeTest");
    }

    private static GameHall none() {
        return new GameHall(4);
    }

    /** So many portions of the tape, none of which could stand in a text. */
    private static GameHall filled(GameHall hall, int portions) {
        for (int k = 0; k < portions; k++) {
            hall.tape(k, -1, 1 << 31, 0x7E7E7E7E, -k);
        }
        return hall;
    }

    private static void manyCalls() {
        Hall.about("An object is used for at most 512 calls after it has been made");
        GameHall back = Hall.with(SMALL);
        int calls = SMALL.length() / 20 + 2;
        for (; calls < 510; calls += 2) {
            back.proceed(0);
            back.retreat();
        }
        Hall.due("the record behind " + calls + " calls", SMALL.substring(0, 8), Hall.text(back.recordAt(0)));
        GameHall texts = none();
        for (int k = 1; k <= 170; k++) {
            Hall.due("text " + k, 0, Hall.submit(texts, "8/8/8/8/8/2k5/7R/2K5 w - - 0 1"));
        }
        Hall.due("texts taken", 170, texts.status(13));
        Hall.due("the 512th call", 16, texts.legalMany());
        GameHall empty = none();
        for (int k = 1; k <= 511; k++) {
            Hall.due("empty text " + k, -1, empty.submit(1 + k % 20));
        }
        Hall.due("the 512th call behind empty texts", 1, empty.status(1));
        longGame();
    }

    private static void longGame() {
        Oracle.Reading game = Oracle.read(Hall.longText(507));
        GameHall hall = Hall.with(Hall.longText(0));
        for (int k = 0; k < 507; k++) {
            List<Integer> list = game.game.get(k).list();
            hall.proceed(list.indexOf(game.moves.get(k)));
        }
        Hall.due("positions, by the 512th call", 508, hall.status(3));
    }

    private static void firstException() {
        Hall.about("Of several exceptions that hold the first one listed is thrown");
        for (int odd : new int[] {-1, 400, LEAST, MOST}) {
            Hall.refuses("proceed without a game", CallEdgeTest::none, STATE, h -> h.proceed(odd));
            Hall.refuses("linesTo without a game", CallEdgeTest::none, STATE, h -> h.linesTo(odd));
            Hall.refuses("valueAt without a game", CallEdgeTest::none, STATE, h -> h.valueAt(odd));
            Hall.refuses("bestAt without a game", CallEdgeTest::none, STATE, h -> h.bestAt(odd));
            for (String text : ENDED) {
                Hall.refuses("proceed behind the end of " + text, () -> Hall.with(text), STATE, h -> h.proceed(odd));
            }
            Hall.refuses("proceed behind 600 moves", () -> Hall.with(Hall.longText(600)), STATE, h -> h.proceed(odd));
            Hall.refuses("proceed behind 599 moves", () -> Hall.with(Hall.longText(599)), INDEX, h -> h.proceed(odd));
        }
    }

    private static void constant() {
        Hall.about("The constants: NONE = -1: There is none.");
        Hall.due("NONE", -1, GameHall.NONE);
        Hall.due("no such square", GameHall.NONE, none().manOn(64));
        Hall.due("no move with a fault", GameHall.NONE, none().status(2));
        Hall.due("no text", GameHall.NONE, none().submit(20));
    }

    private static void askingChangesNothing() {
        Hall.about("Nothing is promised beyond the answers and state changes described above");
        String[] records = {"r3k2r/1P6/8/3pP3/8/8/8/R3K2R w KQkq d6 0 5", "r3k2r/8/8/8/3pP3/8/1p6/R3K2R b KQkq e3 0 5",
            "4k3/8/8/8/8/8/4P3/4K3 w - - 3 9", "8/8/8/8/8/2k5/7R/2K5 b - - 3 9", "8/1P6/k7/8/1K6/8/8/8 w - - 0 1", THIRTY_AND_MORE};
        for (String record : records) {
            GameHall hall = Hall.with(record);
            Oracle x = Oracle.read(record).game.get(0);
            for (int i = 0; i < x.list().size(); i++) {
                Hall.due("spelling " + i, x.spell(x.list().get(i)), Hall.text(hall.spelling(i)));
            }
            Hall.due("record behind all spellings", record, Hall.record(hall));
            for (int depth = 0; depth <= 2; depth++) {
                Hall.due("lines", x.lines(depth), hall.linesTo(depth));
                Hall.due("record behind lines " + depth, record, Hall.record(hall));
                Hall.due("value", x.value(depth), hall.valueAt(depth));
                Hall.due("record behind value " + depth, record, Hall.record(hall));
                Hall.due("best", x.best(depth), hall.bestAt(depth));
                Hall.due("record behind best " + depth, record, Hall.record(hall));
            }
            hall.distanceToMate();
            hall.matingMove();
            Hall.due("record behind the distance", record, Hall.record(hall));
            Hall.due("value behind all", x.value(0), hall.valueAt(0));
            Hall.due("list behind all", x.list().size(), hall.legalMany());
            Hall.due("rights behind all", x.rights, hall.status(6));
            hall.proceed(0);
            Hall.due("record behind a move", x.after(x.list().get(0)).record(), Hall.record(hall));
        }
    }

    private static void newObject() {
        Hall.about("Promise 1: No game, no text.");
        GameHall hall = none();
        int[] due = {0, 0, -1, 0, -1, -1, -1, -1, -1, -1, 0, 0, 0, 0};
        for (int which = 0; which < due.length; which++) {
            Hall.due("status " + which, due[which], hall.status(which));
        }
        Hall.due("legalMany", 0, hall.legalMany());
        Hall.due("recordAt", 0, hall.recordAt(0));
        Hall.due("manOn", -1, hall.manOn(0));
        Hall.answers("retreat", CallEdgeTest::none, 0, h -> h.retreat() ? 1 : 0);
        Hall.refuses("proceed", CallEdgeTest::none, STATE, h -> h.proceed(0));
        Hall.refuses("legalMove", CallEdgeTest::none, INDEX, h -> h.legalMove(0));
        Hall.refuses("spelling", CallEdgeTest::none, INDEX, h -> h.spelling(0));
        Hall.refuses("linesTo", CallEdgeTest::none, STATE, h -> h.linesTo(0));
        Hall.refuses("valueAt", CallEdgeTest::none, STATE, h -> h.valueAt(0));
        Hall.refuses("bestAt", CallEdgeTest::none, STATE, h -> h.bestAt(0));
        Hall.refuses("distanceToMate", CallEdgeTest::none, STATE, GameHall::distanceToMate);
        Hall.refuses("matingMove", CallEdgeTest::none, STATE, GameHall::matingMove);
        Hall.refuses("historyOf", CallEdgeTest::none, INDEX, h -> h.historyOf(0, 0));
        // The same holds when only texts have come that were refused.
        Hall.Maker refused = () -> {
            GameHall other = none();
            Hall.submit(other, Hall.START + " e5");
            return other;
        };
        Hall.due("no game behind a refused text", 0, refused.make().status(3));
        Hall.refuses("proceed behind a refused text", refused, STATE, h -> h.proceed(0));
        Hall.refuses("legalMove behind a refused text", refused, INDEX, h -> h.legalMove(0));
        Hall.refuses("historyOf behind a refused text", refused, INDEX, h -> h.historyOf(0, 0));
        Hall.answers("manOn behind a refused text", refused, -1, h -> h.manOn(0));
        Hall.answers("recordAt behind a refused text", refused, 0, h -> h.recordAt(0));
    }

    private static void slots() {
        Hall.about("Promise 1: slots, 0 .. 12 (others count as the nearest of these), changes nothing of what is told");
        String due = "";
        for (int slots : new int[] {0, 1, 2, 6, 11, 12, -1, 13, 100, LEAST, MOST}) {
            GameHall hall = new GameHall(slots);
            String told = Hall.told(hall) + Hall.submit(hall, SMALL + " e4") + Hall.told(hall);
            told += Hall.submit(hall, "nonsense") + Hall.told(hall) + hall.proceed(0) + Hall.toldOfGame(hall) + hall.retreat();
            due = due.isEmpty() ? told : due;
            Hall.due("what is told with slots " + slots, due, told);
        }
    }

    private static void tapeOrder() {
        Hall.about("Promise 2: Twenty bytes, of each number the highest first, come to the TAPE: true");
        GameHall hall = none();
        Hall.due("tape", 1, hall.tape(0x382F382F, 0x382F382F, 0x382F326B, 0x352F3752, 0x2F324B35) ? 1 : 0);
        Hall.due("bytes", 20, hall.status(0));
        Hall.due("tape", 1, hall.tape(0x2077202D, 0x202D2030, 0x20310000, 0, 0) ? 1 : 0);
        Hall.due("bytes", 40, hall.status(0));
        Hall.due("submit", 0, hall.submit(10));
        Hall.due("record", "8/8/8/8/8/2k5/7R/2K5 w - - 0 1", Hall.record(hall));
        // A byte above 127 is no letter, wherever in a number it stands.
        String text = Hall.START + " e4 e5";
        for (int at = 0; at < text.length(); at++) {
            char[] signs = text.toCharArray();
            signs[at] = (char) (signs[at] | 128);
            Hall.due("a byte above 127 at " + at, -1, Hall.submit(none(), new String(signs)));
        }
    }

    private static void tapeFull() {
        Hall.about("Promise 2: false if it has 8180 or more");
        GameHall hall = none();
        for (int k = 0; k < 409; k++) {
            Hall.due("tape with " + 20 * k, 1, hall.tape(0x20202020, k, -k, 0, 1) ? 1 : 0);
        }
        Hall.due("bytes", 8180, hall.status(0));
        Hall.due("tape with 8180", 0, hall.tape(1, 2, 3, 4, 5) ? 1 : 0);
        Hall.due("bytes behind it", 8180, hall.status(0));
        Hall.due("tape with 8160", 1, filled(none(), 408).tape(1, 2, 3, 4, 5) ? 1 : 0);
        Hall.answers("tape with 8180, no game", () -> filled(none(), 409), 0, h -> h.tape(1, 2, 3, 4, 5) ? 1 : 0);
        Hall.answers("tape with 8180, a game", () -> filled(Hall.with(SMALL), 409), 0, h -> h.tape(1, 2, 3, 4, 5) ? 1 : 0);
        Hall.answers("tape with 8180, again and again", () -> filled(none(), 409), 0, h -> {
            h.tape(1, 2, 3, 4, 5);
            return h.tape(-1, -1, -1, -1, -1) ? 1 : 0;
        });
        // Behind submit the tape takes bytes again.
        hall.submit(20);
        Hall.due("tape of an empty tape", 1, hall.tape(1, 2, 3, 4, 5) ? 1 : 0);
        Hall.due("bytes of it", 20, hall.status(0));
    }

    private static void fullTapeStaysAsItIs() {
        Hall.about("What throws, or answers false, changes nothing.");
        String text = Hall.longText(600) + " nonsense".repeat(8180);
        GameHall hall = none();
        Hall.load(hall, text.substring(0, 8180));
        Hall.due("bytes", 8180, hall.status(0));
        Hall.due("tape", 0, hall.tape(0, 0, 0, 0, 0) ? 1 : 0);
        // It is read from its beginning to behind its 600th move.
        Hall.due("submit", -1, hall.submit(20));
        Hall.due("fault", 20, hall.status(1));
        Hall.due("move", 600, hall.status(2));
        Hall.due("bytes behind it", 0, hall.status(0));
    }

    private static void submitCuts() {
        Hall.about("Promise 3: The TAPE, but for its last 20 - n bytes (n 1 .. 20; ... is a TEXT");
        String text = Hall.START + SHUFFLE + " e4 e5 Nf3";
        for (int length = 1; length <= text.length(); length++) {
            Oracle.Reading due = Oracle.read(text.substring(0, length));
            for (String rest : new String[] {text.substring(length), "", "zzzzzzzzzzzzzzzzzzzz", " e4 e5 Nf3 Nc6 Bb5 a6"}) {
                GameHall hall = none();
                int portions = (length + 19) / 20;
                String padded = text.substring(0, length) + rest + " ".repeat(20);
                Hall.load(hall, padded.substring(0, 20 * portions));
                Hall.due("submit of " + length, due.fault == 0 ? due.moves.size() : -1, hall.submit(length - 20 * (portions - 1)));
                Hall.due("fault of " + length, due.fault, hall.status(1));
                Hall.due("move of " + length, due.move, hall.status(2));
            }
        }
    }

    private static void submitOfNothing() {
        Hall.about("Promise 3: of an empty TAPE the TEXT is empty");
        for (int n = 1; n <= 20; n++) {
            GameHall hall = none();
            Hall.due("submit " + n, -1, hall.submit(n));
            Hall.due("fault of " + n, 1, hall.status(1));
            Hall.due("move of " + n, -1, hall.status(2));
            Hall.due("bytes of " + n, 0, hall.status(0));
            GameHall game = Hall.with(SMALL);
            String before = Hall.toldOfGame(game);
            Hall.due("submit " + n + " with a game", -1, game.submit(n));
            Hall.due("fault of " + n + " with a game", 1, game.status(1));
            Hall.due("the game behind " + n, before, Hall.toldOfGame(game));
        }
        // One byte is not nothing: it is a text of that byte.
        GameHall one = none();
        Hall.due("submit of a byte", -1, Hall.submit(one, "8"));
        Hall.due("fault of a byte", 1, one.status(1));
    }

    private static void submitEmptiesTheTape() {
        Hall.about("Promise 3: the TAPE is empty then");
        for (String text : new String[] {SMALL, SMALL + " e4", "nonsense", SMALL + " e5", Hall.longText(600), Hall.longText(601)}) {
            GameHall hall = none();
            Hall.submit(hall, text);
            Hall.due("bytes behind '" + text + "'", 0, hall.status(0));
            // Nothing of it is left for the next text.
            Hall.due("the next text", 1, Hall.submit(hall, SMALL + " e4"));
            Hall.due("the next empty text", -1, hall.submit(20));
            Hall.due("its fault", 1, hall.status(1));
        }
    }

    private static void submitTakes() {
        Hall.about("Promise 3: If it is right there is a new game, and it stands behind all its moves: how many");
        for (int moves : new int[] {0, 1, 2, 599, 600}) {
            GameHall hall = Hall.with(Hall.START + " e4 e5 Nf3");
            Hall.due("submit", moves, Hall.submit(hall, Hall.longText(moves)));
            Hall.due("positions", moves + 1, hall.status(3));
            Hall.due("texts taken", 2, hall.status(13));
            Oracle.Reading due = Oracle.read(Hall.longText(moves));
            Hall.due("record", due.game.get(moves).record(), Hall.record(hall));
            Hall.due("list", due.game.get(moves).list().size(), hall.legalMany());
            Hall.due("last move", moves == 0 ? -1 : due.moves.get(moves - 1), hall.historyOf(moves, 3));
        }
        // Nothing of the old game counts for the new one.
        GameHall again = Hall.with(Hall.START + SHUFFLE + SHUFFLE);
        Hall.due("submit", 4, Hall.submit(again, Hall.START + SHUFFLE));
        Hall.due("count", 2, again.historyOf(4, 0));
        Hall.due("count of the first", 1, again.historyOf(0, 0));
        Hall.due("different ones", 4, again.status(11));
        for (int k = 0; k < 4; k++) {
            Hall.due("retreat", 1, again.retreat() ? 1 : 0);
        }
        Hall.due("no further", 0, again.retreat() ? 1 : 0);
    }

    private static void submitRefuses() {
        Hall.about("Promise 3: NONE if it is refused: the game stays");
        String kings = "4k3/8/8/8/8/8/8/4K3";
        String[] texts = {"", kings + " x", kings + " w x", kings + " w - x", kings + " w - - x", kings + " w - - 0 x",
            "8/8/8/8/8/8/8/8 w - - 0 1", "P3k3/8/8/8/8/8/8/4K3 w - - 0 1", kings + " w K - 0 1",
            kings + " w - e6 0 1", "4k3/8/8/8/8/8/8/4RK2 w - - 0 1", kings + " w - - 0 1 Kd1", SMALL + " e4 x",
            SMALL + " e4 dxe3 Kd1 Qd8", SMALL + " e4 exd3", SMALL + " e4+"};
        int[] faults = {1, 2, 3, 4, 5, 6, 7, 8, 9, 10, 11, 20, 21, 22, 23, 24};
        for (int k = 0; k < texts.length; k++) {
            for (String start : new String[] {SMALL, Hall.START + " e4 e5", ENDED[0], ENDED[4]}) {
                GameHall hall = Hall.with(start);
                GameHall twin = Hall.with(start);
                Hall.due("submit of " + texts[k], -1, Hall.submit(hall, texts[k]));
                Hall.due("fault of " + texts[k], faults[k], hall.status(1));
                Hall.due("the game behind " + texts[k], Hall.toldOfGame(twin), Hall.toldOfGame(hall));
                Hall.due("the game a move later", Hall.toldLater(twin), Hall.toldLater(hall));
            }
        }
    }

    private static void submitThrows() {
        Hall.about("Promise 3: IllegalArgumentException if n is not 1 .. 20, whatever the TAPE has (it stays)");
        Hall.Maker[] makers = {CallEdgeTest::none, () -> Hall.with(SMALL), () -> filled(none(), 1), () -> filled(none(), 409),
            () -> filled(Hall.with(SMALL), 2), () -> {
                GameHall hall = Hall.with(SMALL + " e4");
                Hall.submit(hall, SMALL + " e4 e5 dxe3");
                return hall;
            }};
        for (Hall.Maker maker : makers) {
            for (int n : new int[] {0, 21, -1, 22, 40, -20, LEAST, MOST}) {
                Hall.refuses("submit " + n, maker, ARGUMENT, h -> h.submit(n));
            }
        }
        // The text stays on the tape: it is read when n is right.
        GameHall hall = none();
        int n = Hall.load(hall, SMALL + " e4 dxe3");
        Hall.dueThrows("submit 0", ARGUMENT, () -> hall.submit(0));
        Hall.dueThrows("submit 21", ARGUMENT, () -> hall.submit(21));
        Hall.due("submit", 2, hall.submit(n));
        GameHall one = none();
        Hall.load(one, "x".repeat(20));
        Hall.due("submit 1", -1, one.submit(1));
        Hall.load(one, "x".repeat(20));
        Hall.due("submit 20", -1, one.submit(20));
    }

    private static void proceedMakes() {
        Hall.about("Promise 4: The i-th move of the LIST is made");
        int many = Hall.with(Hall.START).legalMany();
        for (int i = 0; i < many; i++) {
            GameHall hall = Hall.with(Hall.START);
            Oracle x = Oracle.read(Hall.START).game.get(0);
            int move = hall.legalMove(i);
            hall.proceed(i);
            Hall.due("move " + i, move, hall.historyOf(1, 3));
            Hall.due("record behind " + i, x.after(x.list().get(i)).record(), Hall.record(hall));
            Hall.due("positions", 2, hall.status(3));
        }
    }

    private static void proceedAnswers() {
        Hall.about("Promise 4: is made: the VERDICT.");
        String[] texts = {Hall.START, Hall.START + " f3 e5 g4", "7k/8/6K1/8/8/8/8/5Q2 w - - 0 1", "4k3/8/8/8/8/8/3p4/4K3 w - - 0 1",
            Hall.START + SHUFFLE + SHUFFLE + SHUFFLE + " Nf3 Nf6 Ng1", "4k3/8/8/8/8/8/8/R3K3 w - - 149 80",
            Hall.START + SHUFFLE + " Nf3 Nf6 Ng1", "4k3/8/8/8/8/8/8/R3K3 w - - 99 80",
            Hall.START.replace(" 0 1", " 92 1") + SHUFFLE + " Nf3 Nf6 Ng1"};
        String[] moves = {"e4", "Qh4#", "Qf7", "Kxd2", "Ng8", "Ra2", "Ng8", "Ra2", "Ng8"};
        for (int verdict = 0; verdict <= 8; verdict++) {
            GameHall hall = Hall.with(texts[verdict]);
            Hall.due("proceed to " + verdict, verdict, Hall.play(hall, moves[verdict]));
            Hall.due("status of " + verdict, verdict, hall.status(4));
            Hall.due("history of " + verdict, verdict, hall.historyOf(hall.status(3) - 1, 2));
        }
    }

    private static void proceedWithoutGame() {
        Hall.about("Promise 4: IllegalStateException if there is no game");
        Hall.refuses("no game", CallEdgeTest::none, STATE, h -> h.proceed(0));
        Hall.refuses("no game, but a tape", () -> filled(none(), 3), STATE, h -> h.proceed(0));
        Hall.due("a game", 0, Hall.with(SMALL).proceed(0));
    }

    private static void proceedBehindTheEnd() {
        Hall.about("Promise 4: it has ended");
        for (int k = 0; k < ENDED.length; k++) {
            String text = ENDED[k];
            Hall.due("verdict of " + text, k + 1, Hall.with(text).status(4));
            Hall.refuses("ended: " + text, () -> Hall.with(text), STATE, h -> h.proceed(0));
            GameHall before = Hall.with(text.substring(0, text.lastIndexOf(' ')));
            Hall.due("a move before: " + text, k + 1, Hall.play(before, text.substring(text.lastIndexOf(' ') + 1)));
            Hall.dueThrows("ended by proceed: " + text, STATE, () -> before.proceed(0));
        }
        // What can be claimed has not ended.
        String[] claims = {Hall.START + SHUFFLE + SHUFFLE, "4k3/8/8/8/8/8/8/R3K3 w - - 100 80",
            Hall.START.replace(" 0 1", " 92 1") + SHUFFLE + SHUFFLE};
        for (String text : claims) {
            GameHall hall = Hall.with(text);
            hall.proceed(0);
            Hall.due("goes on: " + text, Oracle.read(text).game.size() + 1, hall.status(3));
        }
    }

    private static void proceedBehindSixHundred() {
        Hall.about("Promise 4: or 600 moves stand in it (those taken back do not count)");
        GameHall hall = Hall.with(Hall.longText(599));
        Hall.due("it goes on", 0, hall.status(4) >= 1 && hall.status(4) <= 5 ? 1 : 0);
        hall.proceed(0);
        Hall.due("positions", 601, hall.status(3));
        Hall.due("it goes on", 0, hall.status(4) >= 1 && hall.status(4) <= 5 ? 1 : 0);
        Hall.dueThrows("behind 600 moves", STATE, () -> hall.proceed(0));
        Hall.due("positions then", 601, hall.status(3));
        Hall.refuses("behind a text of 600 moves", () -> Hall.with(Hall.longText(600)), STATE, h -> h.proceed(0));
        for (int k = 0; k < 5; k++) {
            Hall.due("retreat", 1, hall.retreat() ? 1 : 0);
            Hall.due("retreat", 1, hall.retreat() ? 1 : 0);
            hall.proceed(hall.legalMany() - 1);
            Hall.due("positions", 600 - k, hall.status(3));
        }
        while (hall.status(3) < 601) {
            hall.proceed(hall.legalMany() / 2);
        }
        Hall.dueThrows("behind 600 moves again", STATE, () -> hall.proceed(0));
    }

    private static void proceedOutside() {
        Hall.about("Promise 4: IndexOutOfBoundsException if there is none such");
        String only = "k7/8/8/8/8/8/p1K5/8 w - - 0 1";
        String[] texts = {Hall.START, SMALL, "7k/7P/8/8/8/8/8/K7 b - - 0 1", only};
        for (String text : texts) {
            int many = Hall.with(text).legalMany();
            for (int i : new int[] {-1, many, many + 1, 400, LEAST, MOST}) {
                Hall.refuses("proceed " + i + " of " + many, () -> Hall.with(text), INDEX, h -> h.proceed(i));
            }
            for (int i : new int[] {0, many - 1}) {
                GameHall hall = Hall.with(text);
                hall.proceed(i);
                Hall.due("proceed " + i + " of " + many, 2, hall.status(3));
            }
        }
    }

    private static void retreats() {
        Hall.about("Promise 5: The latest move of the game is taken back");
        String text = "r3k2r/1P6/8/3pP3/8/8/8/R3K2R w KQkq d6 0 5";
        for (String move : new String[] {"exd6", "bxa8Q+", "b8N", "0-0", "0-0-0", "Rxh8+", "Ke2", "e6"}) {
            GameHall hall = Hall.with(text);
            Hall.play(hall, move);
            Hall.due("retreat behind " + move, 1, hall.retreat() ? 1 : 0);
            Hall.due("told behind " + move + " and back", Hall.told(Hall.with(text)), Hall.told(hall));
        }
        // Moves of the text and moves made are taken back alike, the latest first.
        GameHall hall = Hall.with(SMALL + " e4 dxe3");
        Hall.play(hall, "Kd1");
        Hall.play(hall, "Kd8");
        String[] due = {" e4 dxe3 Kd1", " e4 dxe3", " e4", ""};
        for (String moves : due) {
            Hall.due("retreat to" + moves, 1, hall.retreat() ? 1 : 0);
            Hall.due("told behind" + moves, Hall.told(Hall.with(SMALL + moves)), Hall.told(hall));
        }
    }

    private static void retreatsFromTheEnd() {
        Hall.about("Promise 5: (also when the game has ended: it goes on then): true");
        for (String text : ENDED) {
            GameHall hall = Hall.with(text);
            String before = text.substring(0, text.lastIndexOf(' '));
            Hall.due("retreat from " + text, 1, hall.retreat() ? 1 : 0);
            Hall.due("told behind it", Hall.told(Hall.with(before)), Hall.told(hall));
            Hall.due("it goes on", 0, hall.status(4) >= 1 && hall.status(4) <= 5 ? 1 : 0);
            hall.proceed(0);
            Hall.due("another move", Oracle.read(before).game.size() + 1, hall.status(3));
        }
    }

    private static void retreatOfNone() {
        Hall.about("Promise 5: false if there is none (or no game)");
        Hall.answers("no game", CallEdgeTest::none, 0, h -> h.retreat() ? 1 : 0);
        Hall.answers("no move", () -> Hall.with(SMALL), 0, h -> h.retreat() ? 1 : 0);
        Hall.answers("no move, ended", () -> Hall.with("7k/6Q1/6K1/8/8/8/8/8 b - - 0 1"), 0, h -> h.retreat() ? 1 : 0);
        Hall.answers("all taken back", () -> {
            GameHall hall = Hall.with(SMALL + " e4 dxe3");
            hall.retreat();
            hall.retreat();
            return hall;
        }, 0, h -> h.retreat() ? 1 : 0);
        Hall.due("one move", 1, Hall.with(SMALL + " e4").retreat() ? 1 : 0);
    }

    private static void legalMany() {
        Hall.about("Promise 6: How many moves the LIST has; 0 without a game");
        Hall.answers("no game", CallEdgeTest::none, 0, GameHall::legalMany);
        Hall.answers("mate", () -> Hall.with("7k/6Q1/6K1/8/8/8/8/8 b - - 0 1"), 0, GameHall::legalMany);
        Hall.answers("stalemate", () -> Hall.with("7k/5Q2/6K1/8/8/8/8/8 b - - 0 1"), 0, GameHall::legalMany);
        Hall.answers("one", () -> Hall.with("7k/7p/7P/8/8/8/6p1/K5B1 b - - 0 1"), 1, GameHall::legalMany);
        Hall.answers("the start", () -> Hall.with(Hall.START), 20, GameHall::legalMany);
        Hall.due("the most", 218, Hall.with("3Q4/1Q4Q1/4Q3/2Q4R/Q4Q2/3Q4/1Q4Rp/1K1BBNNk w - - 0 1").legalMany());
        Hall.due("the most again", 218, Hall.with("R6R/3Q4/1Q4Q1/4Q3/2Q4Q/Q4Q2/pp1Q4/kBNN1KB1 w - - 0 1").legalMany());
    }

    private static void legalMove() {
        Hall.about("Promise 7: Move i of the LIST. IndexOutOfBoundsException if there is none such");
        for (String text : new String[] {Hall.START, SMALL, "7k/6Q1/6K1/8/8/8/8/8 b - - 0 1"}) {
            List<Integer> due = Oracle.read(text).game.get(0).list();
            for (int i : new int[] {-1, due.size(), due.size() + 1, 400, LEAST, MOST}) {
                Hall.refuses("legalMove " + i, () -> Hall.with(text), INDEX, h -> h.legalMove(i));
            }
            for (int i = 0; i < due.size(); i++) {
                Hall.due("legalMove " + i, due.get(i), Hall.with(text).legalMove(i));
            }
        }
        Hall.refuses("no game", CallEdgeTest::none, INDEX, h -> h.legalMove(0));
    }

    private static void spelling() {
        Hall.about("Promise 8: Its SPELLING: up to eight characters as the bytes of a long, the first one highest, 0 behind them."
                + " IndexOutOfBoundsException if there is none such");
        Hall.due("two characters", 0x6134000000000000L, spelled(Hall.START, "a4"));
        Hall.due("three characters", 0x4E61330000000000L, spelled(Hall.START, "Na3"));
        Hall.due("four characters", 0x5167312B00000000L, spelled("6k1/8/8/8/8/8/8/K2Q4 w - - 0 1", "Qg1+"));
        Hall.due("five characters", 0x302D302D30000000L, spelled("r3k2r/8/8/8/8/8/8/R3K2R w KQkq - 0 1", "0-0-0"));
        Hall.due("six characters", 0x302D302D302B0000L, spelled("3k4/8/8/8/8/8/8/R3K3 w Q - 0 1", "0-0-0+"));
        Hall.due("seven characters", 0x516834786531_2B00L, spelled("8/8/8/k7/4Q2Q/8/8/K3n2Q w - - 0 1", "Qh4xe1+"));
        for (String text : new String[] {Hall.START, SMALL, "7k/6Q1/6K1/8/8/8/8/8 b - - 0 1"}) {
            int many = Hall.with(text).legalMany();
            for (int i : new int[] {-1, many, many + 1, 400, LEAST, MOST}) {
                Hall.refuses("spelling " + i, () -> Hall.with(text), INDEX, h -> h.spelling(i));
            }
            for (int i = 0; i < many; i++) {
                Oracle x = Oracle.read(text).game.get(0);
                Hall.due("spelling " + i, x.spell(x.list().get(i)), Hall.text(Hall.with(text).spelling(i)));
            }
        }
        Hall.refuses("no game", CallEdgeTest::none, INDEX, h -> h.spelling(0));
    }

    private static long spelled(String text, String move) {
        GameHall hall = Hall.with(text);
        return hall.spelling(Hall.place(hall, move));
    }

    private static void recordWords() {
        Hall.about("Promise 9: Eight characters 8 * k .. 8 * k + 7 of the position's RECORD, likewise; 0 where there are none");
        String[] records = {"8/8/8/8/8/2k5/7R/2K5 w - - 0 1", "8/8/8/8/8/2k5/7R/2K5 w - - 0 10", "8/8/8/8/8/2k5/7R/2K5 w - - 0 100",
            "8/8/8/8/8/2k5/7R/2K5 w - - 10 100", "8/8/8/8/8/2k5/6R1/2K5 w - - 10 100", Hall.START,
            "r1b1k1nr/p1p1p1p1/1p1p1p1p/R1B1Q1N1/P1P1P1P1/1P1P1P1P/N1B5/R3K2q w Qkq - 999 9999",
            "4k3/8/8/3pP3/8/8/8/4K3 w - d6 0 9", "4k3/8/8/8/3pP3/8/8/4K3 b - e3 0 9", "r3k2r/8/8/8/8/8/8/R3K2R b Kq - 7 9"};
        for (String record : records) {
            recordDue(Hall.with(record), record);
        }
        Hall.due("a whole number of eights", 32, records[2].length());
        // Nothing of a longer record that was told before stands behind a shorter one.
        for (String record : records) {
            GameHall hall = Hall.with(records[6]);
            recordDue(hall, records[6]);
            Hall.submit(hall, record);
            recordDue(hall, record);
        }
    }

    private static void recordDue(GameHall hall, String record) {
        for (int k = -2; k <= 14; k++) {
            long due = 0;
            for (int at = 8 * k; at < 8 * k + 8; at++) {
                due = due << 8 | (at >= 0 && at < record.length() ? record.charAt(at) : 0);
            }
            Hall.due("recordAt " + k + " of " + record, due, hall.recordAt(k));
        }
    }

    private static void recordOutside() {
        Hall.about("Promise 9: (so for k below 0), or without a game");
        for (int k : new int[] {-1, -2, -8, LEAST, LEAST / 8, MOST, MOST / 8, MOST / 8 + 1, 1 << 29, 7, 8, 12, 13, 100}) {
            Hall.answers("recordAt " + k, () -> Hall.with(Hall.START), 0, h -> h.recordAt(k));
            Hall.answers("recordAt " + k + " without a game", CallEdgeTest::none, 0, h -> h.recordAt(k));
        }
        Hall.answers("recordAt 0 without a game", CallEdgeTest::none, 0, h -> h.recordAt(0));
        Hall.answers("recordAt 0", () -> Hall.with(Hall.START), 0x726E62716B626E72L, h -> h.recordAt(0));
        Hall.answers("recordAt 6", () -> Hall.with(Hall.START), 0x6B71202D20302031L, h -> h.recordAt(6));
    }

    private static void recordBeyondATexts() {
        Hall.about("Promise 9: (Its CLOCK and NUMBER can be more than a text may say.)");
        String men = "r3k3/8/8/8/8/8/8/4K2R";
        Hall.due("9999", men.replace("r3k3/8", "4k3/r7") + " w - - 1 9999",
                Hall.record(Hall.with(men + " b - - 0 9998 Ra7")));
        Hall.due("10000", men.replace("r3k3/8", "4k3/r7") + " w - - 1 10000",
                Hall.record(Hall.with(men + " b - - 0 9999 Ra7")));
        GameHall hall = Hall.with(Hall.longText(600).replace(" 0 1 ", " 0 9999 "));
        Hall.due("number behind 600 moves", 10299, hall.status(9));
        Hall.due("its record", "10299", Hall.record(hall).replaceAll(".* ", ""));
        Hall.due("clock 150", "4k3/8/8/8/8/8/R7/4K3 b - - 150 80", Hall.record(Hall.with(ENDED[4])));
        Hall.due("clock 999", "4k3/8/8/8/8/8/8/R3K3 w - - 999 80", Hall.record(Hall.with("4k3/8/8/8/8/8/8/R3K3 w - - 999 80")));
    }

    private static void manOn() {
        Hall.about("Promise 10: The man on a square of the position; NONE if there is none such, or no game");
        String text = "rnbqkbnr/p7/8/8/8/8/P7/RNBQKBNR w KQkq - 0 1";
        int[] first = {4, 2, 3, 5, 6, 3, 2, 4, 1, 0};
        int[] last = {7, 0, 0, 0, 0, 0, 0, 0, 10, 8, 9, 11, 12, 9, 8, 10};
        GameHall hall = Hall.with(text);
        for (int square = 0; square < first.length; square++) {
            Hall.due("man on " + square, first[square], hall.manOn(square));
        }
        for (int k = 0; k < last.length; k++) {
            Hall.due("man on " + (48 + k), last[k], hall.manOn(48 + k));
        }
        for (int square : new int[] {-1, 64, 65, -64, LEAST, MOST}) {
            Hall.answers("man on " + square, () -> Hall.with(text), -1, h -> h.manOn(square));
        }
        for (int square : new int[] {0, 63, -1, 64}) {
            Hall.answers("man on " + square + " without a game", CallEdgeTest::none, -1, h -> h.manOn(square));
        }
    }

    private static void historyFacts() {
        Hall.about("Promise 16: Of position i of the game, from 0 on: w = 0: its COUNT, 1: its CLOCK, 2: its VERDICT, 3: the move that led to it (NONE for the first), 4: how many"
                + " LEGAL moves it has, 5: 1 if the king of the side to move is ATTACKED, ... 7: the file on which a LEGAL move takes"
                + " IN PASSING, NONE without one");
        String[] texts = {SMALL + " e4 dxe3 Kd1 Kd8", Hall.START + SHUFFLE + SHUFFLE + " f3 e5 g4 Qh4#",
            "4k3/8/8/8/3p4/8/4P3/R3K3 w Q - 99 1 Ra8+ Kd7 Ra1 Ke8 e4 Kd7", "4k3/8/8/3pP3/8/8/8/4K3 w - d6 0 1 Kd1 Kd8 e6 Ke7",
            "8/8/8/K1pP3r/8/8/8/7k w - c6 0 3 Ka6 Rh6+ Ka5 Rh5"};
        for (String text : texts) {
            Oracle.Reading due = Oracle.read(text);
            for (int i = 0; i < due.game.size(); i++) {
                GameHall hall = Hall.with(text);
                Oracle x = due.game.get(i);
                int[] facts = {due.count(i), x.clock, x.verdict(due.count(i)), i == 0 ? -1 : due.moves.get(i - 1),
                    x.list().size(), x.check() ? 1 : 0, hall.historyOf(i, 6), x.passing()};
                for (int w = 0; w < 8; w++) {
                    Hall.due("historyOf " + i + " " + w + " of " + text, facts[w], hall.historyOf(i, w));
                }
            }
        }
    }

    private static void historyFirst() {
        Hall.about("Promise 16: 6: the first position of the game that is the same (i, if none ahead of it is)");
        GameHall hall = Hall.with(Hall.START + " e4 e5" + SHUFFLE + SHUFFLE + " d4");
        int[] due = {0, 1, 2, 3, 4, 5, 2, 3, 4, 5, 2, 11};
        for (int i = 0; i < due.length; i++) {
            Hall.due("first of " + i, due[i], hall.historyOf(i, 6));
        }
    }

    private static void historyOutside() {
        Hall.about("Promise 16: IndexOutOfBoundsException if there is none such, or no such w");
        String text = SMALL + " e4 dxe3";
        int[][] outside = {{-1, 0}, {3, 0}, {4, 7}, {0, -1}, {0, 8}, {2, 8}, {2, -1}, {LEAST, 0}, {MOST, 0}, {0, LEAST}, {0, MOST},
            {-1, 8}, {3, -1}, {-1, -1}, {-1, 8}, {1 << 29, 0}, {1 << 29, 7}};
        for (int[] call : outside) {
            Hall.refuses("historyOf " + call[0] + " " + call[1], () -> Hall.with(text), INDEX, h -> h.historyOf(call[0], call[1]));
        }
        for (int i = 0; i <= 2; i += 2) {
            Hall.due("historyOf " + i + " 0", 1, Hall.with(text).historyOf(i, 0));
            Hall.due("historyOf " + i + " 7", -1, Hall.with(text).historyOf(i, 7));
        }
        Hall.refuses("no game", CallEdgeTest::none, INDEX, h -> h.historyOf(0, 0));
        GameHall back = Hall.with(text);
        back.retreat();
        Hall.due("the last one", 4, back.historyOf(1, 7));
        Hall.dueThrows("taken back", INDEX, () -> back.historyOf(2, 0));
        GameHall full = Hall.with(Hall.longText(600));
        Hall.due("position 600", full.status(8), full.historyOf(600, 1));
        Hall.dueThrows("position 601", INDEX, () -> full.historyOf(601, 0));
    }

    private static void statusOfTexts() {
        Hall.about("Promise 17: 1: the fault of the latest TEXT that was read, whatever was called since (0 without one), 2: the number of"
                + " the move with the fault, from 0 on (NONE if it was in the RECORD, or there was none)");
        faultStays(none(), 0, -1);
        GameHall hall = Hall.with(SMALL);
        faultStays(hall, 0, -1);
        hall = Hall.with(SMALL);
        Hall.submit(hall, SMALL + " e5");
        faultStays(hall, 22, 0);
        hall = Hall.with(SMALL);
        Hall.submit(hall, SMALL + " e4 dxe3 Kd1");
        faultStays(hall, 0, -1);
        hall = Hall.with(SMALL);
        Hall.submit(hall, SMALL + " e4 dxe3 Kd1 x");
        faultStays(hall, 21, 3);
        hall = none();
        Hall.submit(hall, "nonsense");
        faultStays(hall, 1, -1);
        // The next text's fault takes its place, also if that is none.
        Hall.submit(hall, SMALL + " e4+");
        Hall.due("the next fault", 24, hall.status(1));
        Hall.due("its move", 0, hall.status(2));
        Hall.submit(hall, SMALL);
        Hall.due("no fault", 0, hall.status(1));
        Hall.due("no move", -1, hall.status(2));
        Hall.submit(hall, Hall.longText(601));
        Hall.due("the last fault", 20, hall.status(1));
        Hall.due("its move", 600, hall.status(2));
    }

    private static void faultStays(GameHall hall, int fault, int move) {
        Hall.answer(() -> hall.proceed(0));
        Hall.answer(() -> hall.proceed(-1));
        hall.retreat();
        hall.tape(1, 2, 3, 4, 5);
        Hall.answer(() -> hall.submit(0));
        Hall.answer(() -> hall.legalMove(-1));
        Hall.answer(() -> hall.linesTo(9));
        Hall.answer(() -> hall.historyOf(-1, 0));
        Hall.told(hall);
        Hall.due("fault, whatever was called since", fault, hall.status(1));
        Hall.due("move, whatever was called since", move, hall.status(2));
        hall.submit(1);
        Hall.due("fault of the next text", 1, hall.status(1));
        Hall.due("move of the next text", -1, hall.status(2));
    }

    private static void statusOfGames() {
        Hall.about("Promise 17: which 0: bytes on the TAPE, ... 3: positions of the game (0 without one), 4: VERDICT (NONE without a game), 5: SIDE,"
                + " 6: RIGHTS, 7: PASSANT, 8: CLOCK, 9: NUMBER (5 to 9 of the position; NONE without a game),"
                + " 10: men on the board, ... 13: texts that were taken");
        GameHall hall = none();
        int[] without = {0, 0, -1, 0, -1, -1, -1, -1, -1, -1, 0, 0, 0, 0};
        int[] with = {0, 0, -1, 2, 0, 1, 0, 4, 0, 7, 4, 2, 1, 1};
        int[] moved = {20, 0, -1, 3, 0, 0, 0, -1, 0, 8, 3, 3, 1, 1};
        for (int which = 0; which < 14; which++) {
            Hall.due("status " + which + " without a game", without[which], hall.status(which));
        }
        Hall.submit(hall, SMALL + " e4");
        for (int which = 0; which < 14; which++) {
            Hall.due("status " + which, with[which], hall.status(which));
        }
        Hall.play(hall, "dxe3");
        hall.tape(0, 0, 0, 0, 0);
        for (int which = 0; which < 14; which++) {
            Hall.due("status " + which + " a move later", moved[which], hall.status(which));
        }
        hall.submit(20);
        Hall.due("texts taken behind a refused one", 1, hall.status(13));
        Hall.submit(hall, Hall.START);
        Hall.due("texts taken", 2, hall.status(13));
        Hall.due("men", 32, hall.status(10));
        Hall.due("rights", 15, hall.status(6));
    }

    private static void statusOfCounts() {
        Hall.about("Promise 17: 11: how many different positions the game has (those whose COUNT is 1), 12: the greatest COUNT"
                + " (10 to 12: 0 without a game)");
        GameHall hall = Hall.with(Hall.START);
        String[] moves = {"Nf3", "Nf6", "Ng1", "Ng8"};
        for (int k = 0; k <= 16; k++) {
            Hall.due("different ones behind " + k, Math.min(k + 1, 4), hall.status(11));
            Hall.due("greatest count behind " + k, k / 4 + 1, hall.status(12));
            if (k < 16) {
                Hall.play(hall, moves[k % 4]);
            }
        }
        for (int k = 15; k >= 0; k--) {
            hall.retreat();
            Hall.due("different ones back at " + k, Math.min(k + 1, 4), hall.status(11));
            Hall.due("greatest count back at " + k, k / 4 + 1, hall.status(12));
        }
        // The greatest count is not the last position's.
        GameHall on = Hall.with(Hall.START + SHUFFLE + SHUFFLE + " e4");
        Hall.due("different ones", 5, on.status(11));
        Hall.due("greatest count", 3, on.status(12));
        for (int which = 10; which <= 12; which++) {
            Hall.due("without a game", 0, none().status(which));
        }
    }

    private static void statusOutside() {
        Hall.about("Promise 17: NONE for any other which");
        for (int which : new int[] {-1, 14, 15, 16, 20, 100, LEAST, MOST}) {
            Hall.answers("status " + which, () -> Hall.with(SMALL), -1, h -> h.status(which));
            Hall.answers("status " + which + " without a game", CallEdgeTest::none, -1, h -> h.status(which));
        }
        Hall.answers("status 0", () -> filled(Hall.with(SMALL), 2), 40, h -> h.status(0));
        Hall.answers("status 13", () -> Hall.with(SMALL), 1, h -> h.status(13));
    }
}
