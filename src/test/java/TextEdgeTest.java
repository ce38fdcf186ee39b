import java.util.regex.Pattern;

/**
 * The document's sentences on TEXT and the faults of its moves, FORM, GAME, COUNT, DEAD and VERDICT:
 * a test for each, on both sides of its boundary. A refused text leaves the game alone each time.
 */
public final class TextEdgeTest {
    private static final Desk DESK = new Desk();
    private static final String ROOKS = "r3k2r/8/8/8/8/8/8/R3K2R";
    private static final String SHUFFLE = " Nf3 Nf6 Ng1 Ng8";
    private static final Pattern FORM = Pattern.compile(
            "(0-0|0-0-0|[KQRBN][a-h]?[1-8]?x?[a-h][1-8]|([a-h]x)?[a-h][1-8][QRBN]?)[+#]?");

    private TextEdgeTest() {
    }

    public static void main(String[] args) {
        anyNumberOfMoves();
        upToTheNextBlank();
        endedBefore();
        goesOnBefore();
        sixHundred();
        nothing();
        formOfCastling();
        formOfMen();
        formOfPawns();
        formSign();
        formOfShortWords();
        noLegalMove();
        castlingCountsAlone();
        notSpelledSo();
        butForTheSign();
        leastFaultOfAMove();
        rowOfPositions();
        same();
        sameSide();
        sameRights();
        samePassing();
        count();
        dead();
        bishopsOfOneColour();
        verdictMate();
        verdictStalemate();
        verdictDead();
        verdictCountFive();
        verdictClock();
        verdictClaims();
        endedListGoesOn();
        Hall.end("TextEdgeTest");
    }

    private static void anyNumberOfMoves() {
        Hall.about("A TEXT is a RECORD, and behind it any number of moves, a blank ahead of each");
        Hall.taken(Hall.START, 0);
        Hall.taken(Hall.START + " e4", 1);
        Hall.taken(Hall.START + " e4 e5", 2);
        Hall.taken(Hall.longText(599), 599);
        Hall.refused(Hall.START + "e4", 6, -1);
        Hall.refused(Hall.START + " e4e5", 21, 0);
        Hall.refused(Hall.START + " e4\te5", 21, 0);
        Hall.refused(Hall.START + " e4,e5", 21, 0);
    }

    private static void upToTheNextBlank() {
        Hall.about("For a move (what stands up to the next blank, or the end)");
        for (int sign = 0; sign < 256; sign++) {
            // Behind e4 only a sign, a letter of what is become, or a blank, leave a form.
            String text = Hall.START + " e4" + (char) sign;
            int fault = sign == ' ' ? 21 : sign == '+' || sign == '#' ? 24 : "QRBN".indexOf(sign) >= 0 ? 22 : 21;
            GameHall hall = DESK.read(text);
            Hall.due("fault of " + text, fault, hall.status(1));
            Hall.due("faulty move of " + text, sign == ' ' ? 1 : 0, hall.status(2));
        }
        Hall.refused(Hall.START + " e4 ", 21, 1);
        Hall.refused(Hall.START + "  e4", 21, 0);
        Hall.refused(Hall.START + " e4 e5  Nf3", 21, 2);
        Hall.taken(Hall.START + " e4 e5 Nf3", 3);
    }

    private static void endedBefore() {
        Hall.about("20 the game has ended before it");
        String mate = Hall.START + " f3 e5 g4 Qh4#";
        String stalemate = "7k/8/6K1/8/8/8/8/5Q2 w - - 0 1 Qf7";
        String dead = "4k3/8/8/8/8/8/3p4/4K3 w - - 0 1 Kxd2";
        String five = Hall.START + SHUFFLE + SHUFFLE + SHUFFLE + SHUFFLE;
        String late = "4k3/8/8/8/8/8/8/R3K3 w - - 149 80 Ra2";
        String[] ended = {mate, stalemate, dead, five, late};
        int[] moves = {4, 1, 1, 16, 1};
        String[] next = {"Kf2", "Kg8", "Kd7", "e4", "Kd8"};
        for (int k = 0; k < ended.length; k++) {
            GameHall hall = Hall.taken(ended[k], moves[k]);
            Hall.due("verdict of " + ended[k], k + 1, hall.status(4));
            Hall.refused(ended[k] + " " + next[k], 20, moves[k]);
            Hall.refused(ended[k] + " nonsense", 20, moves[k]);
            Hall.refused(ended[k] + " ", 20, moves[k]);
            Hall.refused(ended[k] + "  ", 20, moves[k]);
        }
        // A record whose game has ended at once takes no move at all.
        Hall.taken("7k/6Q1/6K1/8/8/8/8/8 b - - 0 1", 0);
        Hall.refused("7k/6Q1/6K1/8/8/8/8/8 b - - 0 1 Kg8", 20, 0);
        Hall.taken("8/8/8/4k3/8/8/8/4K3 w - - 0 1", 0);
        Hall.refused("8/8/8/4k3/8/8/8/4K3 w - - 0 1 Kd1", 20, 0);
        Hall.taken("4k3/8/8/8/8/8/8/R3K3 w - - 150 80", 0);
        Hall.refused("4k3/8/8/8/8/8/8/R3K3 w - - 150 80 Ra2", 20, 0);
    }

    private static void goesOnBefore() {
        Hall.about("With 1 to 5 the game has ended");
        Hall.due("for the count", 6, Hall.taken(Hall.START + SHUFFLE + SHUFFLE, 8).status(4));
        Hall.taken(Hall.START + SHUFFLE + SHUFFLE + " e4", 9);
        Hall.due("for the clock", 7, Hall.taken("4k3/8/8/8/8/8/8/R3K3 w - - 99 80 Ra2", 1).status(4));
        Hall.taken("4k3/8/8/8/8/8/8/R3K3 w - - 99 80 Ra2 Kd8", 2);
        Hall.taken("4k3/8/8/8/8/8/8/R3K3 w - - 148 80 Ra2 Kd8", 2);
        String both = Hall.START.replace(" 0 1", " 92 50") + SHUFFLE + SHUFFLE;
        Hall.due("for both", 8, Hall.taken(both, 8).status(4));
        Hall.taken(both + " e4", 9);
    }

    private static void sixHundred() {
        Hall.about("or 600 moves stand ahead of it");
        Hall.taken(Hall.longText(599), 599);
        Hall.taken(Hall.longText(600), 600);
        Hall.refused(Hall.longText(601), 20, 600);
        Hall.refused(Hall.longText(602), 20, 600);
        Hall.refused(Hall.longText(600) + " ", 20, 600);
        Hall.refused(Hall.longText(600) + " nonsense", 20, 600);
        Hall.refused(Hall.longText(599) + " nonsense", 21, 599);
        Hall.refused(Hall.longText(599) + " ", 21, 599);
    }

    private static void nothing() {
        Hall.about("21 it has not the FORM of a spelling (also if it is nothing)");
        Hall.refused(Hall.START + " ", 21, 0);
        Hall.refused(Hall.START + "  ", 21, 0);
        Hall.refused(Hall.START + " e4 ", 21, 1);
        Hall.refused(Hall.START + " +", 21, 0);
        Hall.refused(Hall.START + " #", 21, 0);
        Hall.taken(Hall.START + " e4", 1);
    }

    /** Of a word only whether it has the form: refused by 21, or by something else, or by nothing. */
    private static void form(String word) {
        boolean has = FORM.matcher(word).matches();
        GameHall hall = DESK.read(Hall.START + " " + word);
        Hall.due("form of '" + word + "'", has ? 1 : 0, hall.status(1) != 21 ? 1 : 0);
        Hall.due("faulty move for '" + word + "'", hall.status(1) == 0 ? -1 : 0, hall.status(2));
    }

    private static void formOfCastling() {
        Hall.about("The FORM: with + or # or nothing behind it, 0-0 or 0-0-0");
        for (String word : new String[] {"0-0", "0-0-0", "0-0+", "0-0-0#"}) {
            Hall.refused(Hall.START + " " + word, 22, 0);
        }
        for (String word : new String[] {"0", "0-", "00", "0-0-", "0-00", "-0-0", "0-0-0-0", "0-0-0-", "O-O", "o-o", "0-0-O",
            "0-0x", "K0-0", "0-0Q", "0_0", "0--0", "0-0-0-0-0"}) {
            Hall.refused(Hall.START + " " + word, 21, 0);
        }
        // One byte more or another one, also 0, where both castlings would be legal.
        for (int sign = 0; sign < 256; sign++) {
            if (sign != ' ') {
                for (String word : new String[] {"*0-0", "*0-0-0", "0-0*", "0-0-0*", "*-0", "0*0", "0-*", "0-0*0", "0-0-*", "**0-0", "0-0**"}) {
                    castlingForm(word.replace('*', (char) sign));
                }
            }
        }
        for (int bytes = 1; bytes <= 12; bytes++) {
            castlingForm("\0".repeat(bytes) + "0-0");
            castlingForm("\0".repeat(bytes) + "0-0-0");
            castlingForm("0-0" + "\0".repeat(bytes));
        }
    }

    private static void castlingForm(String word) {
        GameHall hall = DESK.read(ROOKS + " w KQkq - 0 1 " + word);
        int fault = word.equals("0-0") || word.equals("0-0-0") ? 0 : word.matches("0-0(-0)?[+#]") ? 24 : 21;
        Hall.due("fault of '" + word + "'", fault, hall.status(1));
        Hall.due("faulty move of '" + word + "'", fault == 0 ? -1 : 0, hall.status(2));
    }

    private static void formOfMen() {
        Hall.about("or a letter of K Q R B N, a file or not, a rank or not, x or not, a file and a rank");
        String[] starts = {"", "K", "Q", "R", "B", "N", "P", "p", "k", "q", "n", "b", "A", "M", "O"};
        String[] origins = {"", "a", "h", "i", "1", "8", "9", "0", "a1", "h8", "1a", "aa", "11", "a9", "`1", "A1", "a1b"};
        String[] takes = {"", "x", "xx", "X", "-", ":"};
        String[] squares = {"a1", "h8", "f3", "i1", "a9", "a0", "`4", "1a", "a", "1", "", "A1", "aa", "44"};
        for (String start : starts) {
            for (String origin : origins) {
                for (String take : takes) {
                    for (String square : squares) {
                        form(start + origin + take + square);
                    }
                }
            }
        }
    }

    private static void formOfPawns() {
        Hall.about("or a file and x, or not, a file and a rank, a letter of Q R B N or not");
        String[] files = {"", "ax", "hx", "ix", "`x", "Ax", "1x", "x", "a", "aX", "axx", "a1x", "a-", "Px"};
        String[] squares = {"a1", "h8", "e4", "i4", "a9", "a0", "4a", "e", "4", ""};
        String[] letters = {"", "Q", "R", "B", "N", "K", "P", "q", "n", "QQ", "=Q", "A", "x"};
        for (String file : files) {
            for (String square : squares) {
                for (String letter : letters) {
                    form(file + square + letter);
                }
            }
        }
    }

    private static void formSign() {
        Hall.about("The FORM: with + or # or nothing behind it");
        String[] bodies = {"e4", "exd5", "e8Q", "dxe8N", "Nf3", "Ng1xf3", "Qa1", "0-0", "0-0-0", "", "e", "Nf"};
        String[] signs = {"", "+", "#", "++", "+#", "#+", "##", "-", "!", "?", "=", " +", "+x", "x+"};
        for (String body : bodies) {
            for (String sign : signs) {
                if (!sign.startsWith(" ")) {
                    form(body + sign);
                }
                form(sign.trim() + body);
            }
        }
    }

    private static void formOfShortWords() {
        Hall.about("21 it has not the FORM of a spelling");
        String signs = "KNQah18x0-+#";
        for (int length = 1; length <= 4; length++) {
            int all = 1;
            for (int k = 0; k < length; k++) {
                all *= signs.length();
            }
            for (int k = 0; k < all; k++) {
                StringBuilder word = new StringBuilder();
                for (int at = 0, left = k; at < length; at++, left /= signs.length()) {
                    word.append(signs.charAt(left % signs.length()));
                }
                form(word.toString());
            }
        }
        for (int sign = 0; sign < 256; sign++) {
            if (sign != ' ') {
                form((char) sign + "e4");
                form((char) sign + "Nf3");
                form((char) sign + "4");
                form("e" + (char) sign);
                form((char) sign + "f3");
                form("N" + (char) sign + "f3");
                form("Nf3" + (char) sign);
            }
        }
        form("Qa1xb2+xxxxxxxxxxxxxxxxxxxxxx");
    }

    private static void noLegalMove() {
        Hall.about("22 no LEGAL move is of that man, to that square, with that letter behind it (or none), or castles to that side");
        String record = "r3k3/1P6/8/8/8/8/6N1/R3K3 w Q - 0 1";
        // The man: a bishop is not there, a queen neither.
        Hall.refused(record + " Be3", 22, 0);
        Hall.taken(record + " Ne3", 1);
        Hall.refused(record + " e3", 22, 0);
        // The square: one further, or where its own men stand.
        Hall.refused(record + " Ne4", 22, 0);
        Hall.refused(record + " Nxe1", 22, 0);
        Hall.refused(record + " b9", 21, 0);
        Hall.refused(record + " b6", 22, 0);
        // The letter: none on the last rank, or one elsewhere.
        Hall.refused(record + " b8", 22, 0);
        Hall.refused(record + " bxa8", 22, 0);
        Hall.refused(record + " b8K", 21, 0);
        Hall.taken(record + " b8N", 1);
        Hall.refused("4k3/8/8/8/8/8/1P6/4K3 w - - 0 1 b3Q", 22, 0);
        Hall.taken("4k3/8/8/8/8/8/1P6/4K3 w - - 0 1 b3", 1);
        // The side: castling to the other one.
        Hall.refused(record + " 0-0", 22, 0);
        Hall.taken(record + " 0-0-0", 1);
        // A move that would leave the king attacked is none, whatever its origin says.
        Hall.refused("4r2k/8/8/8/8/8/4N3/4K3 w - - 0 1 Nc3", 22, 0);
        Hall.refused("4r2k/8/8/8/8/8/4N3/4K3 w - - 0 1 Ne2xc3", 22, 0);
        Hall.taken("5r1k/8/8/8/8/8/4N3/4K3 w - - 0 1 Nc3", 1);
        // The other side's men are none of that man.
        Hall.refused(Hall.START + " Nf6", 22, 0);
        // The letter of an earlier move does not stay.
        Hall.taken("6k1/P7/8/8/8/8/7P/7K w - - 0 1 a8N Kf7 Nc7 Kf6 Nd5+", 5);
        Hall.refused("6k1/P7/8/8/8/8/7P/7K w - - 0 1 a8N Kf7 Nc7N", 21, 2);
        earlierMoves(Hall.START + " e4 d5 exd5 Qxd5 Nc3 Qa5 Nf3 Bf5 Nb5 Qb6");
        earlierMoves("4k3/8/8/3pP3/8/8/8/R3K2R w KQ d6 0 1 0-0 Kd7 Rfd1 Ke6 Rxd5 Kxd5");
        earlierMoves("r3k2r/1P6/8/8/8/8/6p1/R3K2R b KQkq - 0 1 g1Q+ Rxg1 Rb8 Rg7 Kd8 Rc1");
    }

    /** Behind each move, all moves that were legal before: most of them are not so any more. */
    private static void earlierMoves(String text) {
        Oracle.Reading game = Oracle.read(text);
        Hall.due("fault of " + text, 0, game.fault);
        for (int many = 1; many <= game.moves.size(); many++) {
            StringBuilder begun = new StringBuilder(game.game.get(0).record());
            for (int k = 0; k < many; k++) {
                begun.append(' ').append(game.game.get(k).spell(game.moves.get(k)));
            }
            for (int k = Math.max(0, many - 2); k <= many; k++) {
                for (int move : game.game.get(k).list()) {
                    String word = game.game.get(k).spell(move);
                    int due = Oracle.read(begun + " " + word).fault;
                    GameHall hall = DESK.read(begun + " " + word);
                    Hall.due("fault of " + begun + " " + word, due, hall.status(1));
                    Hall.due("faulty move of " + begun + " " + word, due == 0 ? -1 : many, hall.status(2));
                }
            }
        }
    }

    private static void castlingCountsAlone() {
        Hall.about("(those that castle count for this alone)");
        for (String word : new String[] {"Kg1", "Kc1", "Keg1", "Ke1g1", "Kxg1", "Kg1+"}) {
            Hall.refused(ROOKS + " w KQkq - 0 1 " + word, 22, 0);
        }
        Hall.taken(ROOKS + " w KQkq - 0 1 0-0", 1);
        Hall.taken(ROOKS + " w KQkq - 0 1 0-0-0", 1);
        Hall.taken(ROOKS + " w KQkq - 0 1 Kf1", 1);
        Hall.refused(ROOKS + " w kq - 0 1 0-0", 22, 0);
        Hall.refused(ROOKS + " w kq - 0 1 0-0-0", 22, 0);
        // A king that goes one file, or a rook to the same square, is no castling.
        Hall.refused("4k3/8/8/8/8/8/8/5K1R w - - 0 1 0-0", 22, 0);
        Hall.taken("4k3/8/8/8/8/8/8/5K1R w - - 0 1 Kg1", 1);
    }

    private static void notSpelledSo() {
        Hall.about("23 some are, but none is spelled so, not counting + and #");
        // Too much of an origin, too little, or the wrong one.
        for (String word : new String[] {"Ngf3", "N1f3", "Ng1f3", "Nbf3", "N8f3", "Nxf3", "Nf3xf3", "Ngxf3+", "exe4", "dxe4", "exd3", "hxa3#"}) {
            Hall.refused(Hall.START + " " + word, 23, 0);
        }
        String files = "7k/8/8/8/8/8/8/K2N1N2 w - - 0 1";
        for (String word : new String[] {"Ne3", "Nd1e3", "N1e3", "Nge3", "Ndxe3", "Ne3+"}) {
            Hall.refused(files + " " + word, 23, 0);
        }
        Hall.taken(files + " Nde3", 1);
        String ranks = "R7/7k/8/8/8/8/7K/R7 w - - 0 1";
        for (String word : new String[] {"Ra5", "Raa5", "Ra1a5", "R5a5"}) {
            Hall.refused(ranks + " " + word, 23, 0);
        }
        Hall.taken(ranks + " R1a5", 1);
        String three = "6k1/8/8/8/Q6Q/8/7K/Q7 w - - 0 1";
        for (String word : new String[] {"Qd4", "Qad4", "Q4d4", "Qa1d4", "Qh4d4"}) {
            Hall.refused(three + " " + word, 23, 0);
        }
        Hall.taken(three + " Qa4d4", 1);
        Hall.taken(three + " Q1d4", 1);
        Hall.taken(three + " Qhd4", 1);
        // Taking without x, or x without taking; a pawn that takes without its file.
        Hall.refused("7k/8/8/3p4/4P3/8/8/K4R2 w - - 0 1 d5", 23, 0);
        Hall.taken("7k/8/8/3p4/4P3/8/8/K4R2 w - - 0 1 exd5", 1);
        Hall.refused("7k/8/8/3p4/4P3/8/8/K4R2 w - - 0 1 Rxf4", 23, 0);
        Hall.refused("7k/8/8/5p2/4P3/8/8/K4R2 w - - 0 1 Rf5", 23, 0);
        Hall.taken("7k/8/8/5p2/4P3/8/8/K4R2 w - - 0 1 Rxf5", 1);
        Hall.refused("4k3/8/8/3pP3/8/8/8/4K3 w - d6 0 1 d6", 23, 0);
        Hall.taken("4k3/8/8/3pP3/8/8/8/4K3 w - d6 0 1 exd6", 1);
    }

    private static void butForTheSign() {
        Hall.about("24 one is, but for + or #");
        String[][] rows = {
            {Hall.START, "Nf3", "", "+", "#"},
            {"7k/8/8/8/8/8/8/K5R1 w - - 0 1", "Rh1", "+", "", "#"},
            {"7k/6pp/8/8/8/8/8/KR6 w - - 0 1", "Rb8", "#", "", "+"},
            {"7k/8/6K1/8/8/8/8/5Q2 w - - 0 1", "Qf7", "", "+", "#"},
            {"5k2/8/8/8/8/8/8/4K2R w K - 0 1", "0-0", "+", "", "#"},
            {"5k2/8/8/4R1R1/8/8/8/4K2R w K - 0 1", "0-0", "#", "", "+"},
            {"7k/5P2/7K/8/8/8/8/8 w - - 0 1", "f8Q", "#", "", "+"},
            {"4k3/8/8/3pP3/8/8/8/K3R3 w - d6 0 1", "exd6", "+", "", "#"}};
        for (String[] row : rows) {
            Hall.taken(row[0] + " " + row[1] + row[2], 1);
            Hall.refused(row[0] + " " + row[1] + row[3], 24, 0);
            Hall.refused(row[0] + " " + row[1] + row[4], 24, 0);
        }
        Hall.refused(Hall.START + " f3 e5 g4 Qh4", 24, 3);
        Hall.refused(Hall.START + " f3 e5 g4 Qh4+", 24, 3);
        Hall.taken(Hall.START + " f3 e5 g4 Qh4#", 4);
    }

    private static void leastFaultOfAMove() {
        Hall.about("and of those of one move, the least number that holds");
        String ended = "4k3/8/8/8/8/8/8/R3K3 w - - 150 80";
        for (String word : new String[] {"nonsense", "", "Ra9", "Bb2", "Raa2", "Ra2+", "Ra2"}) {
            Hall.refused(ended + " " + word, 20, 0);
        }
        String goes = "4k3/8/8/8/8/8/8/R3K3 w - - 149 80";
        String[] words = {"nonsense", "", "Ra9", "Bb2", "Bab2+", "Raa2", "Raa2+", "Ra2+", "Ra2#"};
        int[] faults = {21, 21, 21, 22, 22, 23, 23, 24, 24};
        for (int k = 0; k < words.length; k++) {
            Hall.refused(goes + " " + words[k], faults[k], 0);
            // What stands behind the first fault is not read.
            Hall.refused(goes + " " + words[k] + " nonsense", faults[k], 0);
        }
        Hall.taken(goes + " Ra2", 1);
    }

    private static void rowOfPositions() {
        Hall.about("A GAME is a row of positions, from the RECORD's on.");
        GameHall hall = Hall.with("4k3/8/8/8/3p4/8/4P3/4K3 w - - 5 7 e4 dxe3 Kd1");
        int[] clocks = {5, 0, 0, 1};
        int[] moves = {-1, 12 + 64 * 28, 27 + 64 * 20, 4 + 64 * 3};
        Hall.due("positions", 4, hall.status(3));
        for (int i = 0; i < 4; i++) {
            Hall.due("clock of " + i, clocks[i], hall.historyOf(i, 1));
            Hall.due("move to " + i, moves[i], hall.historyOf(i, 3));
        }
        Hall.due("one position", 1, Hall.with("4k3/8/8/8/3p4/8/4P3/4K3 w - - 5 7").status(3));
    }

    private static void sameDue(String text, int i, int count, int first) {
        sameDueAsItIs(text, i, count, first);
        sameDueAsItIs(Hall.mirrored(text), i, count, first);
    }

    private static void sameDueAsItIs(String text, int i, int count, int first) {
        GameHall hall = Hall.with(text);
        Hall.due("count of " + i + " in " + text, count, hall.historyOf(i, 0));
        Hall.due("first of " + i + " in " + text, first, hall.historyOf(i, 6));
    }

    private static void same() {
        Hall.about("Two are THE SAME if all squares, SIDE and RIGHTS are");
        sameDue(Hall.START + SHUFFLE, 4, 2, 0);
        sameDue(Hall.START + " Nf3 Nf6 Ng1 Nc6", 4, 1, 4);
        sameDue(Hall.START + " Nf3 Nf6 Nd4 Nd5 Nb3 Nb6", 6, 1, 6);
        // Men of one kind that have changed places are the same; the clock and the number do not matter.
        sameDue("7k/8/8/8/8/8/8/KR4R1 w - - 9 5 Rb3 Kh7 Rgb1 Kh8 Rg3 Kh7 Rgg1 Kh8", 8, 2, 0);
        sameDue("7k/8/8/2N5/8/8/8/K1N5 w - - 0 1 N5d3 Kg8 Na2 Kh8 Nac1 Kg8 Nc5 Kh8", 8, 2, 0);
        sameDue("7k/8/8/2N5/8/8/8/K1N5 w - - 0 1 N1b3 Kg8 Nd3 Kh8 Ndc1 Kg8 Nc5 Kh8", 8, 2, 0);
        // One man on another square, and it is another position.
        sameDue("7k/8/8/8/8/8/8/KB4N1 w - - 9 5 Nf3 Kg8 Ng1 Kh8", 4, 2, 0);
        sameDue("7k/8/8/8/8/8/8/KB4N1 w - - 9 5 Bc2 Kg8 Bb3+ Kh8", 4, 1, 4);
    }

    private static void sameSide() {
        Hall.about("if all squares, SIDE");
        // The white king loses a move on a triangle.
        String text = "k7/8/8/8/8/8/7P/K7 w - - 0 1 Kb1 Kb8 Kb2 Ka8 Ka1";
        sameDue(text, 5, 1, 5);
        sameDue(text + " Kb8 Kb1 Ka8", 8, 1, 8);
        sameDue(text + " Kb8 Kb2 Ka8 Ka1", 9, 2, 5);
    }

    private static void sameRights() {
        Hall.about("and RIGHTS are");
        sameDue(ROOKS + " w KQkq - 0 1 Rb1 Rb8 Ra1 Ra8", 4, 1, 4);
        sameDue(ROOKS + " w KQkq - 0 1 Rb1 Rb8 Ra1 Ra8 Rb1 Rb8 Ra1 Ra8", 8, 2, 4);
        sameDue(ROOKS + " w Kk - 0 1 Rb1 Rb8 Ra1 Ra8", 4, 2, 0);
        sameDue(ROOKS + " w - - 0 1 Kd1 Kd8 Ke1 Ke8", 4, 2, 0);
        sameDue(ROOKS + " w k - 0 1 Kd1 Ra7 Ke1 Ra8", 4, 2, 0);
        sameDue(ROOKS + " w q - 0 1 Kd1 Ra7 Ke1 Ra8", 4, 1, 4);
    }

    private static void samePassing() {
        Hall.about("and on which file a LEGAL move takes IN PASSING (or that there is none)");
        // Somebody can take: the position comes again without that.
        sameDue("7k/8/8/2pP4/8/8/8/K7 w - c6 0 3 Kb1 Kg8 Ka1 Kh8", 4, 1, 4);
        sameDue("7k/8/8/2pP4/8/8/8/K7 w - c6 0 3 Kb1 Kg8 Ka1 Kh8 Kb1 Kg8 Ka1 Kh8", 8, 2, 4);
        // Nobody stands beside, or the pawn is pinned: there was no such move from the first on.
        sameDue("7k/8/8/2p1P3/8/8/8/K7 w - c6 0 3 Kb1 Kg8 Ka1 Kh8", 4, 2, 0);
        sameDue("8/8/8/K1pP3r/8/8/8/7k w - c6 0 3 Ka4 Kg1 Ka5 Kh1", 4, 2, 0);
        sameDue("8/8/8/2pP3r/K7/8/8/7k w - c6 0 3 Ka3 Kg1 Ka4 Kh1", 4, 1, 4);
        // The pawn beside was there, but its king is in a check that taking does not meet.
        sameDue("r6k/8/8/2pP4/8/8/8/K7 w - c6 0 3 Kb1 Rb8+ Ka1 Ra8+", 4, 2, 0);
        // A move that makes a passant which nobody can use.
        GameHall hall = Hall.with("8/8/8/8/k2p3R/8/4P3/4K3 w - - 0 1 e4");
        Hall.due("passant", 4, hall.status(7));
        Hall.due("no move takes", -1, hall.historyOf(1, 7));
    }

    private static void count() {
        Hall.about("The COUNT of a position is how many in the row up to it, itself among them, are the same");
        GameHall hall = Hall.with(Hall.START + SHUFFLE + SHUFFLE + SHUFFLE + SHUFFLE);
        for (int i = 0; i <= 16; i++) {
            Hall.due("count of " + i, i / 4 + 1, hall.historyOf(i, 0));
            Hall.due("first of " + i, i % 4, hall.historyOf(i, 6));
        }
        // Later ones do not count for an earlier one, and what is taken back does not count.
        hall.retreat();
        Hall.due("count behind a retreat", 4, hall.historyOf(15, 0));
        Hall.play(hall, "Rg8");
        Hall.due("count of another", 1, hall.historyOf(16, 0));
        Hall.due("greatest count", 4, hall.status(12));
    }

    private static void deadDue(String men, boolean due) {
        for (String side : new String[] {"w", "b"}) {
            GameHall hall = Hall.with(men + " " + side + " - - 0 1");
            Hall.due("verdict of " + men + " " + side, due ? 3 : 0, hall.status(4));
            Hall.due("it has moves", 1, hall.legalMany() > 0 ? 1 : 0);
        }
    }

    private static void dead() {
        Hall.about("It is DEAD if there are besides the kings: nothing; or one bishop or one knight");
        deadDue("8/8/8/4k3/8/8/8/K7", true);
        for (String man : new String[] {"B", "N", "b", "n"}) {
            deadDue("8/8/8/4k3/8/8/8/K6" + man, true);
        }
        for (String man : new String[] {"Q", "R", "q", "r"}) {
            deadDue("8/8/8/4k3/8/2K5/8/7" + man, false);
        }
        deadDue("8/8/8/4k3/8/8/P7/K7", false);
        deadDue("8/8/8/4k3/8/8/p7/2K5", false);
        for (String two : new String[] {"NN", "nn", "Nn", "NB", "nb", "Nb", "nB", "BB", "bb"}) {
            deadDue("8/8/8/4k3/8/8/8/K4" + two + "1", false);
        }
    }

    /** White's bishop on a, black's on b, and kings where nobody is attacked. */
    private static String withBishops(int a, int b) {
        for (int white = 0; white < 64; white++) {
            for (int black = 63; black >= 0; black--) {
                Oracle x = new Oracle();
                x.number = 1;
                x.men[white] = 6;
                x.men[black] = 12;
                x.men[a] = 3;
                x.men[b] = 9;
                boolean stand = x.king(0) >= 0 && x.king(1) >= 0;
                if (stand && !x.attacked(white, 1) && !x.attacked(black, 0)) {
                    return x.record();
                }
            }
        }
        throw new IllegalStateException("no squares are left for the kings");
    }

    private static void bishopsOfOneColour() {
        Hall.about("or just one bishop of each side, both on squares of one colour ((file + rank) of both even, or both odd)");
        for (int a = 0; a < 64; a++) {
            for (int b = 0; b < 64; b++) {
                if (a != b) {
                    String record = withBishops(a, b);
                    boolean one = (a % 8 + a / 8) % 2 == (b % 8 + b / 8) % 2;
                    Hall.due("verdict of " + record, one ? 3 : 0, DESK.read(record).status(4));
                }
            }
        }
        deadDue("8/8/8/4k3/8/8/8/K3B1b1", true);
        deadDue("8/8/8/4k3/8/8/8/K3B2b", false);
        // Two of one side, or a third man, and it is not dead.
        deadDue("8/8/8/4k3/8/8/8/K3B1B1", false);
        deadDue("8/8/8/4k3/8/8/8/K1b1B1b1", false);
        deadDue("8/7p/8/4k3/8/8/8/K3B1b1", false);
    }

    private static void verdictDue(String text, int due) {
        verdictDueAsItIs(text, due);
        verdictDueAsItIs(Hall.mirrored(text), due);
    }

    private static void verdictDueAsItIs(String text, int due) {
        GameHall hall = Hall.with(text);
        Hall.due("verdict of " + text, due, hall.status(4));
        Hall.due("verdict in the history of " + text, due, hall.historyOf(hall.status(3) - 1, 2));
    }

    private static void verdictMate() {
        Hall.about("The VERDICT, the first one that holds: 1 mate (no LEGAL moves, the king ATTACKED)");
        verdictDue("7k/6Q1/6K1/8/8/8/8/8 b - - 0 1", 1);
        verdictDue("7k/6Q1/5K2/8/8/8/8/8 b - - 0 1", 1);
        verdictDue("7k/6Q1/4K3/8/8/8/8/8 b - - 0 1", 0);
        verdictDue("7k/7Q/8/5K2/8/8/8/8 b - - 0 1", 0);
        // Before the clock.
        verdictDue("7k/6Q1/6K1/8/8/8/8/8 b - - 99 1", 1);
        verdictDue("7k/6Q1/6K1/8/8/8/8/8 b - - 100 1", 1);
        verdictDue("7k/6Q1/6K1/8/8/8/8/8 b - - 150 1", 1);
        verdictDue("7k/8/6K1/8/8/8/8/R7 w - - 149 90 Ra8#", 1);
    }

    private static void verdictStalemate() {
        Hall.about("2 stalemate (no LEGAL moves)");
        verdictDue("7k/5Q2/6K1/8/8/8/8/8 b - - 0 1", 2);
        verdictDue("7k/5Q2/6K1/8/8/8/8/8 w - - 0 1", 0);
        verdictDue("7k/5Q2/6K1/8/8/p7/8/8 b - - 0 1", 0);
        // Before dead, and before the clock.
        verdictDue("k7/8/1K6/4B3/8/8/8/8 b - - 0 1", 2);
        verdictDue("k7/8/1K6/4B3/8/8/8/8 w - - 0 1", 3);
        verdictDue("7k/5Q2/6K1/8/8/8/8/8 b - - 100 1", 2);
        verdictDue("7k/5Q2/6K1/8/8/8/8/8 b - - 150 1", 2);
        verdictDue("k7/8/1K6/4B3/8/8/8/8 b - - 150 1", 2);
    }

    private static void verdictDead() {
        Hall.about("3 DEAD");
        verdictDue("8/8/8/4k3/8/8/8/K6B w - - 0 1", 3);
        verdictDue("8/8/8/4k3/8/8/8/K5BB w - - 0 1", 0);
        // Before the clock.
        verdictDue("8/8/8/4k3/8/8/8/K6B w - - 99 1", 3);
        verdictDue("8/8/8/4k3/8/8/8/K6B w - - 100 1", 3);
        verdictDue("8/8/8/4k3/8/8/8/K6B w - - 150 1", 3);
    }

    private static void verdictCountFive() {
        Hall.about("4 the COUNT is 5 or more");
        GameHall hall = Hall.with(Hall.START);
        String[] moves = {"Nf3", "Nf6", "Ng1", "Ng8"};
        for (int k = 1; k <= 16; k++) {
            int count = k / 4 + 1;
            Hall.due("verdict behind " + k + " moves", count >= 5 ? 4 : count >= 3 ? 6 : 0, Hall.play(hall, moves[(k - 1) % 4]));
        }
        Hall.dueThrows("it has ended", IllegalStateException.class, () -> hall.proceed(0));
        // Before the clock, when both come together.
        verdictDue(Hall.START.replace(" 0 1", " 134 1") + SHUFFLE + SHUFFLE + SHUFFLE + SHUFFLE, 4);
        verdictDue(Hall.START.replace(" 0 1", " 135 1") + SHUFFLE + SHUFFLE + SHUFFLE + " Nf3 Nf6 Ng1", 5);
    }

    private static void verdictClock() {
        Hall.about("5 the CLOCK is 150 or more");
        String rook = "4k3/8/8/8/8/8/8/R3K3 w - - ";
        int[] clocks = {0, 98, 99, 100, 101, 148, 149, 150, 151, 999};
        int[] due = {0, 0, 0, 7, 7, 7, 7, 5, 5, 5};
        for (int k = 0; k < clocks.length; k++) {
            verdictDue(rook + clocks[k] + " 1", due[k]);
        }
        verdictDue(rook + "148 1 Ra2", 7);
        verdictDue(rook + "149 1 Ra2", 5);
        // A pawn's move or a taking starts the clock anew.
        verdictDue("4k3/8/8/8/8/8/P7/R3K3 w - - 149 1 a3", 0);
        verdictDue("4k3/8/8/8/8/8/p7/R3K3 w - - 149 1 Rxa2", 0);
    }

    private static void verdictClaims() {
        Hall.about("8 it goes on, and a draw can be claimed for both: the COUNT is 3 or more, the CLOCK 100 or more;"
                + " 6 for the COUNT; 7 for the CLOCK; 0 it goes on");
        String twice = SHUFFLE + SHUFFLE;
        for (int clock = 90; clock <= 93; clock++) {
            String text = Hall.START.replace(" 0 1", " " + clock + " 1");
            // Behind eight moves the count is 3, behind seven 2.
            verdictDue(text + twice, clock + 8 >= 100 ? 8 : 6);
            verdictDue(text + SHUFFLE + " Nf3 Nf6 Ng1", clock + 7 >= 100 ? 7 : 0);
        }
        verdictDue(Hall.START + SHUFFLE, 0);
        verdictDue(Hall.START + twice, 6);
        verdictDue(Hall.START + twice + SHUFFLE, 6);
        verdictDue(Hall.START + twice + " e4", 0);
        verdictDue(Hall.START.replace(" 0 1", " 92 1") + twice + " Nc3", 7);
        verdictDue(Hall.START.replace(" 0 1", " 92 1") + twice + " e4", 0);
    }

    private static void endedListGoesOn() {
        Hall.about("(LIST, lines, VALUE, BEST, DISTANCE and MATING move are of the position as always:"
                + " they go on as long as there are LEGAL moves)");
        String[] ended = {"8/8/8/4k3/8/8/8/K6B w - - 0 1", "4k3/8/8/8/8/8/8/R3K3 w - - 150 1", "8/8/8/4k3/8/8/8/K7 w - - 0 1",
            Hall.START + SHUFFLE + SHUFFLE + SHUFFLE + SHUFFLE};
        for (String text : ended) {
            GameHall hall = Hall.with(text);
            Oracle.Reading read = Oracle.read(text);
            Oracle x = read.game.get(read.game.size() - 1);
            Hall.due("moves of " + text, x.list().size(), hall.legalMany());
            Hall.due("last move of " + text, x.list().get(x.list().size() - 1), hall.legalMove(x.list().size() - 1));
            Hall.due("first spelling of " + text, x.spell(x.list().get(0)), Hall.text(hall.spelling(0)));
            for (int depth = 0; depth <= 2; depth++) {
                Hall.due("lines of " + text, x.lines(depth), hall.linesTo(depth));
                Hall.due("value of " + text, x.value(depth), hall.valueAt(depth));
                Hall.due("best of " + text, x.best(depth), hall.bestAt(depth));
            }
            Hall.due("distance of " + text, MateTest.distance(x), hall.distanceToMate());
            Hall.due("mating move of " + text, MateTest.matingPlace(x), hall.matingMove());
        }
        Hall.due("a distance with a full clock", 1, Hall.with(ended[1]).distanceToMate() > 0 ? 1 : 0);
    }
}
