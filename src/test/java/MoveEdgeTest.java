import java.util.Arrays;
import java.util.List;

/**
 * The document's sentences on SQUARES, ATTACKED, MOVE, LEGAL, what a move changes and LIST: a test for
 * each, on both sides of its boundary.
 */
public final class MoveEdgeTest {
    private static final Desk DESK = new Desk();
    private static final String ROOKS = "r3k2r/8/8/8/8/8/8/R3K2R";

    private MoveEdgeTest() {
    }

    public static void main(String[] args) {
        squares();
        filesAndRanks();
        men();
        sideToMove();
        sumOfRights();
        passantFile();
        attackedByOne();
        nothingBetween();
        moveNumber();
        becomesOnTheLastRank();
        ownMenAndKings();
        ridersAndLeapers();
        pawnOneRank();
        pawnTwoRanks();
        pawnTakes();
        pawnInPassing();
        inPassingOnce();
        castlingSquares();
        castlingRight();
        castlingBetween();
        castlingAttacked();
        legal();
        pins();
        pinsComeAndGo();
        kingRightsGo();
        cornerRightsGo();
        passantOfTwoRanks();
        passantAsTheRecordSays();
        clock();
        number();
        listOrder();
        Hall.end("MoveEdgeTest");
    }

    /** Where the man on a square can go by the list, in its order: each as a square, and what is become. */
    private static String goals(GameHall hall, String from) {
        StringBuilder out = new StringBuilder();
        int many = hall.legalMany();
        for (int i = 0; i < many; i++) {
            int move = hall.legalMove(i);
            if (Oracle.name(move & 63).equals(from)) {
                String become = move >> 12 == 0 ? "" : Oracle.LETTERS.substring(move >> 12, (move >> 12) + 1);
                out.append(out.length() == 0 ? "" : " ").append(Oracle.name(move >> 6 & 63)).append(become);
            }
        }
        return out.toString();
    }

    /** With the sides changed the man goes to the same squares, as the other side sees them. */
    private static void goes(String record, String from, String due) {
        Hall.due(from + " in " + record, due, goals(Hall.with(record), from));
        String other = Hall.mirrored(record);
        String back = Hall.otherRanks(goals(Hall.with(other), Hall.otherRanks(from)));
        Hall.due(from + " in " + record + " for the other side", sorted(due), sorted(back));
    }

    private static String sorted(String words) {
        String[] parts = words.split(" ");
        Arrays.sort(parts);
        return String.join(" ", parts);
    }

    private static Oracle empty(int side) {
        Oracle x = new Oracle();
        x.number = 1;
        x.side = side;
        return x;
    }

    private static String list(Oracle x) {
        StringBuilder out = new StringBuilder();
        for (int move : x.list()) {
            out.append(move).append(' ');
        }
        return out.toString();
    }

    private static String list(GameHall hall) {
        StringBuilder out = new StringBuilder();
        int many = hall.legalMany();
        for (int i = 0; i < many; i++) {
            out.append(hall.legalMove(i)).append(' ');
        }
        return out.toString();
    }

    private static void squares() {
        Hall.about("SQUARES 0 .. 63 are a1, b1, .. h1, a2, .. h8");
        GameHall hall = Hall.with("n5kq/p6r/8/8/8/8/N6P/K5NR w - - 0 1");
        int[] due = {0, 6, 6, 2, 7, 4, 8, 2, 15, 1, 48, 7, 55, 10, 56, 8, 62, 12, 63, 11};
        for (int k = 0; k < due.length; k += 2) {
            Hall.due("man on " + due[k], due[k + 1], hall.manOn(due[k]));
        }
        for (int square : new int[] {1, 5, 9, 14, 16, 47, 49, 54, 57, 61}) {
            Hall.due("man on " + square, 0, hall.manOn(square));
        }
    }

    private static void filesAndRanks() {
        Hall.about("square s has the file s % 8 (a .. h) and the rank s / 8 (1 .. 8).");
        for (int square = 0; square < 64; square++) {
            Oracle x = empty(0);
            int[] kings = twoAside(square, 4);
            x.men[square] = 4;
            x.men[kings[0]] = 6;
            x.men[kings[1]] = 12;
            GameHall hall = Hall.with(x.record());
            Hall.due("man on " + square, 4, hall.manOn(square));
            int many = hall.legalMany();
            for (int i = 0; i < many; i++) {
                int to = hall.legalMove(i) >> 6;
                String name = "" + "abcdefgh".charAt(to % 8) + "12345678".charAt(to / 8);
                Hall.due("square " + to, name, Hall.text(hall.spelling(i)).replaceAll("[KRx+#]", ""));
            }
        }
    }

    private static void men() {
        Hall.about("A square has 0 (empty) or a MAN: 1 .. 6 white pawn, knight, bishop, rook, queen, king,"
                + " 7 .. 12 the black ones.");
        GameHall hall = Hall.with("7k/8/8/pnbrq3/PNBRQ3/8/8/7K w - - 0 1");
        for (int k = 0; k < 5; k++) {
            Hall.due("white man " + k, k + 1, hall.manOn(24 + k));
            Hall.due("black man " + k, k + 7, hall.manOn(32 + k));
        }
        Hall.due("white king", 6, hall.manOn(7));
        Hall.due("black king", 12, hall.manOn(63));
        Hall.due("empty", 0, hall.manOn(29));
    }

    private static void sideToMove() {
        Hall.about("a SIDE to move (0 white, 1 black)");
        String men = "4k3/4p3/8/8/8/8/4P3/4K3";
        Hall.due("white", 0, Hall.with(men + " w - - 0 1").status(5));
        Hall.due("black", 1, Hall.with(men + " b - - 0 1").status(5));
        goes(men + " w - - 0 1", "e7", "");
        goes(men + " b - - 0 1", "e7", "e5 e6");
        goes(men + " w - - 0 1", "e2", "e3 e4");
        goes(men + " b - - 0 1", "e2", "");
    }

    private static void sumOfRights() {
        Hall.about("RIGHTS to castle (the sum of 1 for white's king's side, 2 queen's, 4 for black's king's, 8 queen's side)");
        for (int rights = 0; rights < 16; rights++) {
            Oracle x = Oracle.copy(Oracle.read(ROOKS + " w KQkq - 0 1").game.get(0));
            x.rights = rights;
            Hall.due("rights", rights, Hall.with(x.record()).status(6));
            castlingDue(x, true, (rights & 1) != 0);
            castlingDue(x, false, (rights & 2) != 0);
            x.side = 1;
            castlingDue(x, true, (rights & 4) != 0);
            castlingDue(x, false, (rights & 8) != 0);
        }
    }

    private static void passantFile() {
        Hall.about("a PASSANT file 0 .. 7 or NONE, a CLOCK and a NUMBER");
        String men = "4k3/8/8/pppppppp/PPPPPPPP/8/8/4K3";
        for (int file = 0; file < 8; file++) {
            Hall.due("white to move", file, Hall.with(men + " w - " + "abcdefgh".charAt(file) + "6 0 17").status(7));
            Hall.due("black to move", file, Hall.with(men + " b - " + "abcdefgh".charAt(file) + "3 0 17").status(7));
        }
        GameHall hall = Hall.with(men + " w - - 31 17");
        Hall.due("none", -1, hall.status(7));
        Hall.due("clock", 31, hall.status(8));
        Hall.due("number", 17, hall.status(9));
    }

    /** Whether a man on a strikes b on an empty board, by the words of the document. */
    private static boolean strikes(int man, int a, int b) {
        int files = b % 8 - a % 8;
        int ranks = b / 8 - a / 8;
        int f = Math.abs(files);
        int r = Math.abs(ranks);
        boolean askew = f == r && f > 0;
        boolean straight = f == 0 != (r == 0);
        switch (man % 6) {
            case 1: return f == 1 && ranks == (man == 1 ? 1 : -1);
            case 2: return f == 2 && r == 1 || f == 1 && r == 2;
            case 3: return askew;
            case 4: return straight;
            case 5: return askew || straight;
            default: return f <= 1 && r <= 1 && a != b;
        }
    }

    /** A square for a king where it changes nothing for the other one on b. */
    private static int aside(Oracle x, int b) {
        boolean struck = x.attacked(b, 1 - Oracle.owner(x.men[b]));
        for (int s = 0; s < 64; s++) {
            if (x.men[s] != 0 || strikes(6, s, b)) {
                continue;
            }
            Oracle y = Oracle.copy(x);
            y.men[s] = 18 - x.men[b];
            boolean stays = y.attacked(b, 1 - Oracle.owner(x.men[b])) == struck;
            if (stays && !y.attacked(s, Oracle.owner(x.men[b]))) {
                return s;
            }
        }
        throw new IllegalStateException("no square is left in " + x.record());
    }

    private static void attackedByOne() {
        Hall.about("A square is ATTACKED by a side: by a knight (two and one), a king beside it, a pawn on a file"
                + " beside it (white on the rank below it, black on the rank above), or along a line by a bishop or queen"
                + " (askew), a rook or queen (straight)");
        for (int man = 1; man <= 12; man++) {
            for (int a = 0; a < 64; a++) {
                boolean pawn = man % 6 == 1;
                for (int b = 0; b < 64; b++) {
                    if (a != b && !(pawn && (a < 8 || a > 55))) {
                        attacked(man, a, b);
                    }
                }
            }
        }
    }

    private static void attacked(int man, int a, int b) {
        int own = man <= 6 ? 0 : 1;
        Oracle x = empty(own);
        x.men[a] = man;
        x.men[b] = 12 - 6 * own;
        if (man % 6 != 0) {
            x.men[aside(x, b)] = 6 + 6 * own;
        }
        boolean struck = strikes(man, a, b);
        DESK.due(x.record(), struck ? 11 : 0);
        x.side = 1 - own;
        GameHall hall = DESK.read(x.record());
        // A king beside a king is refused for both sides.
        if (man % 6 != 0) {
            Hall.due("attacked in " + x.record(), struck ? 1 : 0, hall.historyOf(0, 5));
        }
    }

    private static void nothingBetween() {
        Hall.about("with nothing between");
        for (int a = 0; a < 64; a++) {
            for (int b = 0; b < 64; b++) {
                int steps = Math.max(Math.abs(a % 8 - b % 8), Math.abs(a / 8 - b / 8));
                if (strikes(5, a, b) && steps > 1) {
                    int step = (b - a) / steps;
                    for (int s = a + step; s != b; s += step) {
                        between(a, s, b);
                    }
                }
            }
        }
    }

    /** A queen on a, a knight of either side on s, and on b the king that it shields. */
    private static void between(int a, int s, int b) {
        for (int own = 0; own < 2; own++) {
            for (int shield = 2; shield <= 8; shield += 6) {
                Oracle x = empty(1 - own);
                x.men[a] = 5 + 6 * own;
                x.men[s] = shield;
                x.men[b] = 12 - 6 * own;
                x.men[aside(x, b)] = 6 + 6 * own;
                Hall.due("attacked in " + x.record(), 0, DESK.read(x.record()).historyOf(0, 5));
                Hall.due("taken " + x.record(), 0, DESK.read(x.record()).status(1));
            }
        }
    }

    private static void moveNumber() {
        Hall.about("A MOVE is from + 64 * to + 4096 * what a pawn becomes (0 none, 2 knight, 3 bishop, 4 rook, 5 queen");
        GameHall hall = Hall.with("7k/P7/8/8/8/8/8/7K w - - 0 1");
        int[] due = {7 + 64 * 6, 7 + 64 * 14, 7 + 64 * 15, 48 + 64 * 56 + 8192, 48 + 64 * 56 + 12288,
            48 + 64 * 56 + 16384, 48 + 64 * 56 + 20480};
        Hall.due("moves", due.length, hall.legalMany());
        for (int i = 0; i < due.length; i++) {
            Hall.due("move " + i, due[i], hall.legalMove(i));
            hall.proceed(i);
            Hall.due("move " + i + " made", due[i], hall.historyOf(1, 3));
            Hall.due("man behind move " + i, Math.max(1, due[i] / 4096), hall.manOn(i < 3 ? 48 : 56));
            hall.retreat();
        }
        String[] become = {"N", "B", "R", "Q"};
        for (int k = 0; k < 4; k++) {
            GameHall black = Hall.with("k7/8/8/8/8/8/7p/K5N1 b - - 0 1");
            Hall.play(black, "h1" + become[k]);
            Hall.due("black's man " + become[k], 8 + k, black.manOn(7));
        }
    }

    private static void becomesOnTheLastRank() {
        Hall.about("one of these when it comes to the last rank");
        for (int file = 0; file < 8; file++) {
            String f = "" + (char) ('a' + file);
            for (int side = 0; side < 2; side++) {
                Oracle x = empty(side);
                x.men[16 + (file + 4) % 8] = 6;
                x.men[40 + (file + 4) % 8] = 12;
                int seventh = side == 0 ? 48 + file : 8 + file;
                x.men[seventh] = 1 + 6 * side;
                String last = f + (side == 0 ? 8 : 1);
                goes(x.record(), Oracle.name(seventh), last + "N " + last + "B " + last + "R " + last + "Q");
                x.men[seventh] = 0;
                int sixth = side == 0 ? 40 + file : 16 + file;
                x.men[sixth] = 1 + 6 * side;
                goes(x.record(), Oracle.name(sixth), f + (side == 0 ? 7 : 2));
            }
        }
        goes("nn5k/P7/8/8/8/8/8/7K w - - 0 1", "a7", "b8N b8B b8R b8Q");
        goes("7k/8/8/8/8/8/p7/NN5K b - - 0 1", "a2", "b1N b1B b1R b1Q");
    }

    private static void ownMenAndKings() {
        Hall.about("On from is a man of the side to move, on to none of it, and no king");
        goes("7k/8/8/8/8/1n6/P7/RN5K w - - 0 1", "a1", "");
        goes("7k/8/8/8/8/1n6/P7/Rn5K w - - 0 1", "a1", "b1");
        goes("7k/8/8/8/8/1n6/P7/RN5K w - - 0 1", "b3", "");
        goes("7k/8/8/8/8/1n6/P7/RN5K b - - 0 1", "b3", "a1 c1 d2 d4 a5 c5");
        goes("7k/8/8/8/8/1n6/P7/RN5K b - - 0 1", "a2", "");
        goes("7k/8/8/8/8/2p5/1P6/K7 w - - 0 1", "b2", "b3 c3 b4");
        goes("7k/8/8/8/8/2P5/1P6/K7 w - - 0 1", "b2", "b3 b4");
        goes("8/8/8/8/8/1k6/1P6/1K6 w - - 0 1", "b2", "");
    }

    private static void ridersAndLeapers() {
        Hall.about("It goes so: knight, bishop, rook, queen, king to a square that it attacks");
        for (int man = 2; man <= 12; man++) {
            for (int a = 0; a < 64 && man != 7; a++) {
                int own = man <= 6 ? 0 : 1;
                Oracle x = empty(own);
                x.men[a] = man;
                int far = (a % 8 < 4 ? 7 : 0) + (a / 8 < 4 ? 56 : 0);
                if (man % 6 == 0) {
                    x.men[far] = 12 - 6 * own;
                } else {
                    int[] kings = twoAside(a, man);
                    x.men[kings[0]] = 6 + 6 * own;
                    x.men[kings[1]] = 12 - 6 * own;
                }
                GameHall hall = Hall.with(x.record());
                Hall.due("list of " + x.record(), list(x), list(hall));
            }
        }
    }

    /** Squares for two kings, neither beside the other, the second one not struck from a. */
    private static int[] twoAside(int a, int man) {
        for (int s = 0; s < 64; s++) {
            for (int t = 63; t >= 0; t--) {
                if (s != a && t != a && s != t && !strikes(6, s, t) && !strikes(5, a, t) && !strikes(man, a, t)) {
                    return new int[] {s, t};
                }
            }
        }
        throw new IllegalStateException("no squares are left");
    }

    private static void pawnOneRank() {
        Hall.about("a pawn one rank on to an empty square");
        goes("7k/8/8/8/8/4P3/8/7K w - - 0 1", "e3", "e4");
        goes("7k/8/8/8/4n3/4P3/8/7K w - - 0 1", "e3", "");
        goes("7k/8/8/8/4N3/4P3/8/7K w - - 0 1", "e3", "");
        goes("7k/8/4p3/8/8/8/8/7K b - - 0 1", "e6", "e5");
        goes("7k/8/4p3/4N3/8/8/8/7K b - - 0 1", "e6", "");
        goes("7k/8/4p3/4n3/8/8/8/7K b - - 0 1", "e6", "");
    }

    private static void pawnTwoRanks() {
        Hall.about("from its second rank two ranks over an empty square to an empty one");
        for (int file = 0; file < 8; file++) {
            for (int rank = 1; rank <= 5; rank++) {
                Oracle x = empty(0);
                x.men[(file + 4) % 8] = 6;
                x.men[56 + (file + 4) % 8] = 12;
                int from = 8 * rank + file;
                x.men[from] = 1;
                String one = Oracle.name(from + 8);
                goes(x.record(), Oracle.name(from), rank == 1 ? one + " " + Oracle.name(from + 16) : one);
                Oracle y = empty(1);
                y.men[(file + 4) % 8] = 6;
                y.men[56 + (file + 4) % 8] = 12;
                y.men[from ^ 56] = 7;
                one = Oracle.name((from ^ 56) - 8);
                goes(y.record(), Oracle.name(from ^ 56), rank == 1 ? Oracle.name((from ^ 56) - 16) + " " + one : one);
            }
        }
        goes("7k/8/8/8/8/4n3/4P3/7K w - - 0 1", "e2", "");
        goes("7k/8/8/8/8/4N3/4P3/7K w - - 0 1", "e2", "");
        goes("7k/8/8/8/4n3/8/4P3/7K w - - 0 1", "e2", "e3");
        goes("7k/8/8/8/4N3/8/4P3/7K w - - 0 1", "e2", "e3");
        goes("7k/8/8/4n3/8/8/4P3/7K w - - 0 1", "e2", "e3 e4");
        goes("7k/4p3/4N3/8/8/8/8/7K b - - 0 1", "e7", "");
        goes("7k/4p3/8/4N3/8/8/8/7K b - - 0 1", "e7", "e6");
        goes("7k/4p3/8/8/4N3/8/8/7K b - - 0 1", "e7", "e5 e6");
    }

    private static void pawnTakes() {
        Hall.about("or a rank on and a file aside to a square with a man of the other side");
        goes("7k/8/8/3n1n2/4P3/8/8/7K w - - 0 1", "e4", "d5 e5 f5");
        goes("7k/8/8/3N1N2/4P3/8/8/7K w - - 0 1", "e4", "e5");
        goes("7k/8/8/8/3nPn2/3n1n2/8/7K w - - 0 1", "e4", "e5");
        goes("7k/8/8/2n3n1/4P3/8/8/7K w - - 0 1", "e4", "e5");
        goes("7k/8/8/4p3/3N1N2/8/8/7K b - - 0 1", "e5", "d4 e4 f4");
        goes("7k/8/8/4p3/3n1n2/8/8/7K b - - 0 1", "e5", "e4");
        // Nobody takes round the edge of the board, a rank up or down.
        goes("7k/8/n6n/n6n/P6n/n6n/8/4K3 w - - 0 1", "a4", "");
        goes("7k/8/n6n/7n/P6n/n6n/8/4K3 w - - 0 1", "a4", "a5");
        goes("4k3/8/n6n/n7/n6P/n6n/8/4K3 w - - 0 1", "h4", "h5");
        goes("4k3/8/N6N/p6N/7N/N6N/8/4K3 b - - 0 1", "a5", "a4");
        goes("4k3/8/N6N/N6p/N7/N6N/8/4K3 b - - 0 1", "h5", "h4");
    }

    private static void pawnInPassing() {
        Hall.about("or IN PASSING to the empty square of the PASSANT file on the other side's third rank,"
                + " if the pawn that has passed it stands behind (it is taken)");
        for (int side = 0; side < 2; side++) {
            for (int file = 0; file < 8; file++) {
                for (int from = 8; from < 56; from++) {
                    inPassing(side, file, from);
                }
            }
        }
    }

    private static void inPassing(int side, int file, int from) {
        Oracle x = empty(side);
        int passed = file + (side == 0 ? 32 : 24);
        int goal = file + (side == 0 ? 40 : 16);
        int second = file + (side == 0 ? 48 : 8);
        if (from == passed || from == goal || from == second) {
            return;
        }
        x.passant = file;
        x.men[(file + 4) % 8] = 6;
        x.men[56 + (file + 4) % 8] = 12;
        x.men[passed] = 7 - 6 * side;
        x.men[from] = 1 + 6 * side;
        if (x.attacked(x.king(1 - side), side)) {
            return;
        }
        GameHall hall = DESK.read(x.record());
        boolean can = from / 8 == passed / 8 && Math.abs(from % 8 - file) == 1;
        Hall.due("passing in " + x.record(), can ? file : -1, hall.historyOf(0, 7));
        if (can) {
            GameHall made = Hall.with(x.record());
            made.proceed(Hall.place(made, (char) ('a' + from % 8) + "x" + Oracle.name(goal)));
            Hall.due("the pawn stands on the passed square", 1 + 6 * side, made.manOn(goal));
            Hall.due("the passed pawn is taken", 0, made.manOn(passed));
            Hall.due("men", 3, made.status(10));
            x.passant = -1;
            Hall.due("without a passant", -1, DESK.read(x.record()).historyOf(0, 7));
        }
    }

    private static void inPassingOnce() {
        Hall.about("The PASSANT is the file of a pawn that went two ranks");
        GameHall hall = Hall.with("4k3/8/8/8/3p4/8/4P3/4K3 w - - 0 1 e4");
        Hall.due("at once", 4, hall.historyOf(1, 7));
        Hall.play(hall, "Kd8");
        Hall.play(hall, "Kd1");
        Hall.due("a move later", -1, hall.historyOf(3, 7));
        Hall.due("a move later: place", -1, Hall.place(hall, "dxe3"));
        // Both pawns that went two ranks could be taken, but only the latest one is.
        goes("4k3/8/8/3pPp2/8/8/8/4K3 w - d6 0 1", "e5", "d6 e6");
        goes("4k3/8/8/3pPp2/8/8/8/4K3 w - f6 0 1", "e5", "e6 f6");
        goes("4k3/8/8/3pPp2/8/8/8/4K3 w - - 0 1", "e5", "e6");
    }

    /** Castling with king and rook alone: white or black, to the king's or the queen's side. */
    private static Oracle castle(int side, boolean kingSide) {
        Oracle x = empty(side);
        int home = 4 + 56 * side;
        x.men[home] = 6 + 6 * side;
        x.men[kingSide ? home + 3 : home - 4] = 4 + 6 * side;
        x.rights = (kingSide ? 1 : 2) << 2 * side;
        // The other king is far from it, and not on the rook's file.
        x.men[(side == 0 ? 48 : 8) + (kingSide ? 0 : 7)] = 12 - 6 * side;
        return x;
    }

    private static boolean castles(Oracle x, boolean kingSide) {
        int home = 4 + 56 * x.side;
        int due = home + 64 * (kingSide ? home + 2 : home - 2);
        return (" " + list(Hall.with(x.record()))).contains(" " + due + " ");
    }

    private static void castlingDue(Oracle x, boolean kingSide, boolean due) {
        Hall.due("castling in " + x.record() + (kingSide ? " to g" : " to c"), due ? 1 : 0, castles(x, kingSide) ? 1 : 0);
    }

    private static void castlingSquares() {
        Hall.about("a king CASTLING: from its own square two files to the side, ... the rook comes to the square that is passed");
        String[] due = {"R4RK1", "2KR3R", "r4rk1", "2kr3r"};
        for (int k = 0; k < 4; k++) {
            String side = k < 2 ? "w" : "b";
            GameHall hall = Hall.with(ROOKS + " " + side + " KQkq - 0 1 " + (k % 2 == 0 ? "0-0" : "0-0-0"));
            String record = k < 2 ? "r3k2r/8/8/8/8/8/8/" + due[k] + " b kq - 1 1" : due[k] + "/8/8/8/8/8/8/R3K2R w KQ - 1 2";
            Hall.due("castled", record, Hall.record(hall));
        }
    }

    private static void castlingRight() {
        Hall.about("if the right is there, its rook stands on its corner");
        for (int side = 0; side < 2; side++) {
            for (int rights = 0; rights < 16; rights++) {
                Oracle x = Oracle.read(ROOKS + " w KQkq - 0 1").game.get(0);
                Oracle y = Oracle.copy(x);
                y.side = side;
                y.rights = rights;
                castlingDue(y, true, (rights >> 2 * side & 1) == 1);
                castlingDue(y, false, (rights >> 2 * side & 2) == 2);
            }
        }
        // The right has gone with the rook that was taken on its corner, though another one has come there.
        GameHall hall = Hall.with("4k3/8/8/8/4b3/6R1/8/4K2R w K - 0 1 Rg7 Bxh1 Rg1 Bd5 Rh1 Kd8");
        Hall.due("a rook on the corner", 4, hall.manOn(7));
        Hall.due("castling without the right", -1, Hall.place(hall, "0-0"));
    }

    private static void castlingBetween() {
        Hall.about("all squares between them are empty");
        for (int side = 0; side < 2; side++) {
            for (int way = 0; way < 2; way++) {
                boolean kingSide = way == 0;
                castlingDue(castle(side, kingSide), kingSide, true);
                for (int file = kingSide ? 5 : 1; file <= (kingSide ? 6 : 3); file++) {
                    for (int man : new int[] {2, 3, 5, 8}) {
                        Oracle x = castle(side, kingSide);
                        x.men[56 * side + file] = man;
                        if (!x.attacked(x.king(1 - side), side)) {
                            castlingDue(x, kingSide, false);
                        }
                    }
                }
            }
        }
    }

    private static void castlingAttacked() {
        Hall.about("and neither the king's square nor the one it passes is ATTACKED by the other side; ... "
                + "LEGAL if the king is not ATTACKED when it has been made");
        for (int side = 0; side < 2; side++) {
            for (int way = 0; way < 2; way++) {
                boolean kingSide = way == 0;
                for (int file = 0; file < 8; file++) {
                    Oracle x = castle(side, kingSide);
                    x.men[32 + file] = 10 - 6 * side;
                    boolean bars = file == 4 || file == (kingSide ? 5 : 3) || file == (kingSide ? 6 : 2);
                    castlingDue(x, kingSide, !bars);
                    // A knight between takes the attack away.
                    Oracle y = castle(side, kingSide);
                    y.men[(side == 0 ? 32 : 24) + file] = 10 - 6 * side;
                    y.men[(side == 0 ? 24 : 32) + file] = 2 + 6 * side;
                    castlingDue(y, kingSide, true);
                }
            }
        }
        goes("8/8/8/8/8/8/6k1/R3K2R w KQ - 0 1", "e1", "c1 d1 d2 e2");
        goes("8/8/8/8/8/8/1k6/R3K2R w KQ - 0 1", "e1", "d1 f1 g1 d2 e2 f2");
        goes("8/8/8/8/8/1k6/8/R3K2R w KQ - 0 1", "e1", "c1 d1 f1 g1 d2 e2 f2");
    }

    private static void legal() {
        Hall.about("It is LEGAL if the king is not ATTACKED when it has been made");
        goes("4r2k/8/8/8/8/8/4N3/4K3 w - - 0 1", "e2", "");
        goes("3r3k/8/8/8/8/8/4N3/4K3 w - - 0 1", "e2", "c1 g1 c3 g3 d4 f4");
        goes("4r2k/8/8/8/8/8/4R3/4K3 w - - 0 1", "e2", "e3 e4 e5 e6 e7 e8");
        goes("7k/8/8/8/7b/8/5P2/4K3 w - - 0 1", "f2", "");
        goes("7k/8/8/8/8/6b1/5P2/4K3 w - - 0 1", "f2", "g3");
        goes("7k/8/8/8/8/6b1/4P3/4K3 w - - 0 1", "e2", "");
        goes("7k/8/8/8/8/3p4/8/4K3 w - - 0 1", "e1", "d1 f1 d2 f2");
        goes("8/8/8/8/8/4k3/8/4K3 w - - 0 1", "e1", "d1 f1");
        goes("7k/8/8/8/8/8/3n4/4K3 w - - 0 1", "e1", "d1 d2 e2 f2");
        goes("3r3k/8/8/8/8/8/3n4/4K3 w - - 0 1", "e1", "d1 e2 f2");
        // The king does not hide behind itself on the line of the check.
        goes("4r2k/8/8/8/8/4K3/8/8 w - - 0 1", "e3", "d2 f2 d3 f3 d4 f4");
        // In passing both pawns leave the rank, or the diagonal.
        goes("7k/8/8/K2pP2r/8/8/8/8 w - d6 0 1", "e5", "e6");
        goes("7k/8/8/K2pP3/7r/8/8/8 w - d6 0 1", "e5", "d6 e6");
        goes("6bk/8/8/3pP3/8/1K6/8/8 w - d6 0 1", "e5", "e6");
        // The pawn that gives check is taken in passing.
        goes("7k/8/8/3pP3/4K3/8/8/8 w - d6 0 1", "e5", "d6");
        goes("7k/8/8/3pP3/4K3/8/8/8 w - - 0 1", "e5", "");
        // Another man gives check: taking in passing does not help, or stands between.
        goes("7k/8/8/3pP3/8/8/3n4/5K2 w - d6 0 1", "e5", "");
        goes("7k/8/8/2KpP3/8/3n4/8/8 w - d6 0 1", "e5", "");
        goes("7k/8/r6K/3pP3/8/8/8/8 w - d6 0 1", "e5", "d6 e6");
        goes("7k/8/8/q1KpP3/8/8/8/8 w - d6 0 1", "e5", "");
    }

    private static void pins() {
        Hall.about("It is LEGAL if the king is not ATTACKED when it has been made");
        int[] steps = {8, -8, 1, -1, 9, -9, 7, -7};
        for (int king = 0; king < 64; king++) {
            for (int step : steps) {
                int reach = reach(king, step);
                for (int far = 2; far <= reach; far++) {
                    for (int near = 1; near < far; near++) {
                        pin(king, king + near * step, king + far * step);
                    }
                }
            }
        }
    }

    /** How many steps there are to the edge of the board. */
    private static int reach(int from, int step) {
        int reach = 0;
        int at = from;
        while (at + step >= 0 && at + step < 64 && Math.abs((at + step) % 8 - at % 8) <= 1) {
            at += step;
            reach++;
        }
        return reach;
    }

    /** A queen or a knight between its king and a man of the other side on one line. */
    private static void pin(int king, int shield, int far) {
        for (int kind = 3; kind <= 5; kind++) {
            for (int own = 0; own < 2; own++) {
                Oracle x = empty(own);
                x.men[king] = 6 + 6 * own;
                x.men[shield] = (king + far) % 3 == 0 ? 2 + 6 * own : 5 + 6 * own;
                x.men[far] = kind + 6 - 6 * own;
                int other = aside(x, king);
                x.men[other] = 12 - 6 * own;
                if (x.attacked(other, own)) {
                    continue;
                }
                GameHall hall = DESK.read(x.record());
                Hall.due("moves of " + x.record(), x.list().size(), hall.legalMany());
                Hall.due("last move of " + x.record(), x.list().get(x.list().size() - 1), hall.legalMove(x.list().size() - 1));
            }
        }
    }

    private static void pinsComeAndGo() {
        Hall.about("It is LEGAL if the king is not ATTACKED when it has been made");
        GameHall hall = Hall.with("4r2k/8/8/8/8/8/4N3/4K3 w - - 0 1");
        Hall.due("pinned", "", goals(hall, "e2"));
        Hall.play(hall, "Kd1");
        Hall.play(hall, "Kg8");
        Hall.due("pinned no longer", "c1 g1 c3 g3 d4 f4", goals(hall, "e2"));
        hall.retreat();
        hall.retreat();
        Hall.due("pinned again", "", goals(hall, "e2"));
        Hall.submit(hall, "6k1/8/8/8/8/8/4N3/4K2R w K - 0 1");
        Hall.due("another game", "c1 g1 c3 g3 d4 f4", goals(hall, "e2"));
    }

    private static void rightsDue(String moves, int due) {
        String text = ROOKS + " w KQkq - 0 1 " + moves;
        Hall.due("rights behind " + moves, due, Hall.with(text).status(6));
        Hall.due("rights behind " + moves + " of the other side", due >> 2 | (due & 3) << 2,
                Hall.with(Hall.mirrored(text)).status(6));
    }

    private static void kingRightsGo() {
        Hall.about("rights of a side go when its king moves");
        rightsDue("Kd1", 12);
        rightsDue("Kf2", 12);
        rightsDue("0-0", 12);
        rightsDue("0-0-0", 12);
        rightsDue("Kd1 Kd8", 0);
        rightsDue("Kd1 0-0", 0);
        rightsDue("Kd1 0-0-0+", 0);
        rightsDue("Kd1 Rb8", 4);
        rightsDue("Kd1 Rb8 Ke1 Ra8", 4);
        Hall.due("a right that is gone does not come back", -1,
                Hall.place(Hall.with(ROOKS + " w KQkq - 0 1 Kd1 Ke7 Ke1 Ke8"), "0-0"));
        Hall.due("another man's move", 15, Hall.with("rn2k2r/8/8/8/8/8/8/RN2K2R w KQkq - 0 1 Nc3 Nc6").status(6));
        Hall.due("to the other king's square", 12,
                Hall.with("r3k2r/8/8/8/8/8/4q3/R3K2R w KQkq - 0 1 Kxe2").status(6));
    }

    private static void cornerRightsGo() {
        Hall.about("a right goes when a rook's corner is from or to");
        rightsDue("Rb1", 13);
        rightsDue("Rg1", 14);
        rightsDue("Rb1 Rb8", 5);
        rightsDue("Rb1 Rg8", 9);
        rightsDue("Rb1 Rb8 Ra1 Ra8", 5);
        rightsDue("Rxa8+", 5);
        rightsDue("Rxh8+", 10);
        Hall.due("a bishop takes on h1", 14, Hall.with("r3k2r/8/8/8/4b3/8/8/R3K2R b KQkq - 0 1 Bxh1").status(6));
        Hall.due("a bishop takes on a1", 13, Hall.with("r3k2r/8/8/8/3b4/8/8/R3K2R b KQkq - 0 1 Bxa1").status(6));
        Hall.due("a bishop takes on h8", 11, Hall.with("r3k2r/8/8/8/3B4/8/8/R3K2R w KQkq - 0 1 Bxh8").status(6));
        Hall.due("a bishop takes on a8", 7, Hall.with("r3k2r/8/8/8/4B3/8/8/R3K2R w KQkq - 0 1 Bxa8").status(6));
        Hall.due("a pawn becomes on a8", 7, Hall.with("r3k2r/1P6/8/8/8/8/8/R3K2R w KQkq - 0 1 bxa8N").status(6));
        Hall.due("a pawn becomes on h1", 14, Hall.with("r3k2r/8/8/8/8/8/6p1/R3K2R b KQkq - 0 1 gxh1B").status(6));
        for (int side = 0; side < 2; side++) {
            for (int from = 0; from < 64; from++) {
                knightsLeaveRights(side, from);
            }
        }
    }

    /** From and to all other squares a knight's move takes no right away. */
    private static void knightsLeaveRights(int side, int from) {
        Oracle x = Oracle.copy(Oracle.read(ROOKS + " w KQkq - 0 1").game.get(0));
        if (x.men[from] != 0) {
            return;
        }
        x.side = side;
        x.men[from] = 2 + 6 * side;
        if (x.attacked(x.king(1 - side), side)) {
            return;
        }
        for (int move : x.list()) {
            int to = move >> 6 & 63;
            if ((move & 63) == from) {
                int gone = to == 7 ? 1 : to == 0 ? 2 : to == 63 ? 4 : to == 56 ? 8 : 0;
                String text = x.record() + " " + x.spell(move);
                Hall.due("rights behind " + text, 15 - gone, DESK.read(text).status(6));
            }
        }
    }

    private static void passantDue(String record, String move, int due) {
        Hall.due("passant behind " + move + " in " + record, due, Hall.with(record + " " + move).status(7));
        String other = Hall.mirrored(record + " " + move);
        Hall.due("passant behind " + other, due, Hall.with(other).status(7));
    }

    private static void passantOfTwoRanks() {
        Hall.about("The PASSANT is the file of a pawn that went two ranks, if a pawn of the other side stands beside it"
                + " on its rank, else NONE");
        for (int side = 0; side < 2; side++) {
            for (int file = 0; file < 8; file++) {
                for (int beside = 16; beside < 48; beside++) {
                    for (int man : new int[] {1, 7, 8, 2}) {
                        besideDue(side, file, beside, man);
                    }
                }
            }
        }
        passantDue("4k3/8/8/8/3p1p2/8/4P3/4K3 w - - 0 1", "e4", 4);
        passantDue("4k3/8/8/8/8/3p1p2/4P3/4K3 w - - 0 1", "e3", -1);
        passantDue("4k3/8/8/8/3p1p2/4P3/8/4K3 w - - 0 1", "e4", -1);
        passantDue("4k3/8/8/3ppp2/8/8/8/4K3 b - - 0 1", "e4", -1);
        // It stands, though the pawn beside may not take: its king would be attacked.
        passantDue("8/8/8/8/k2p3R/8/4P3/4K3 w - - 0 1", "e4", 4);
    }

    private static void besideDue(int side, int file, int beside, int man) {
        Oracle x = empty(side);
        int from = file + (side == 0 ? 8 : 48);
        int over = file + (side == 0 ? 16 : 40);
        int to = file + (side == 0 ? 24 : 32);
        x.men[(file + 4) % 8] = 6;
        x.men[56 + (file + 4) % 8] = 12;
        if (beside == over || beside == to) {
            return;
        }
        x.men[from] = 1 + 6 * side;
        x.men[beside] = man;
        if (x.attacked(x.king(side), 1 - side) || x.attacked(x.king(1 - side), side)) {
            return;
        }
        GameHall hall = DESK.read(x.record() + " " + Oracle.name(to));
        boolean other = man == 7 - 6 * side;
        boolean due = other && beside / 8 == to / 8 && Math.abs(beside % 8 - file) == 1;
        Hall.due("fault of " + x.record() + " " + Oracle.name(to), 0, hall.status(1));
        Hall.due("passant behind " + Oracle.name(to) + " in " + x.record(), due ? file : -1, hall.status(7));
    }

    private static void passantAsTheRecordSays() {
        Hall.about("(a RECORD's PASSANT is as it says till then, whether a pawn can use it or not)");
        String record = "4k3/8/8/3p4/8/8/8/4K3 w - d6 0 9";
        GameHall hall = Hall.with(record);
        Hall.due("passant", 3, hall.status(7));
        Hall.due("record", record, Hall.record(hall));
        Hall.due("nobody uses it", -1, hall.historyOf(0, 7));
        Hall.play(hall, "Kd1");
        Hall.due("it goes with the next move", -1, hall.status(7));
        hall.retreat();
        Hall.due("and comes back with it", 3, hall.status(7));
        Hall.due("the record, too", record, Hall.record(hall));
        passantDue("4k3/8/8/3pP3/8/8/8/4K3 w - d6 0 9", "Kd1", -1);
        passantDue("4k3/8/8/3pP3/8/8/8/4K3 w - d6 0 9", "exd6", -1);
    }

    private static void clockDue(String record, String move, int due) {
        Hall.due("clock behind " + move + " in " + record, due, Hall.with(record + " " + move).status(8));
        String other = Hall.mirrored(record + " " + move);
        Hall.due("clock behind " + other, due, Hall.with(other).status(8));
    }

    private static void clock() {
        Hall.about("The CLOCK is 0 if a pawn moved or something was taken, else 1 more");
        String record = "r3k2r/1P4p1/8/3p4/4P3/8/8/R3K2R w KQkq - 37 9";
        clockDue(record, "e5", 0);
        clockDue(record, "exd5", 0);
        clockDue(record, "b8N", 0);
        clockDue(record, "bxa8Q+", 0);
        clockDue(record, "Rxa8+", 0);
        clockDue(record, "Ra2", 38);
        clockDue(record, "Kf1", 38);
        clockDue(record, "0-0", 38);
        clockDue(record, "0-0-0", 38);
        clockDue(record, "Rh2 0-0", 39);
        clockDue(record, "Rh2 g5", 0);
        clockDue(record, "Rh2 g5 Rh1", 1);
        clockDue("4k3/8/8/3pP3/8/8/8/4K3 w - d6 0 9", "exd6", 0);
        clockDue("4k3/8/8/3pP3/8/8/8/4K3 w - d6 0 9", "Kd1", 1);
        clockDue("4k3/8/8/8/8/8/8/R3K3 w Q - 99 9", "Ra2", 100);
        clockDue("4k3/8/8/8/8/8/8/R3K3 w Q - 148 9", "Ra2", 149);
        clockDue("4k3/8/8/8/8/8/8/R3K3 w Q - 149 9", "Ra2", 150);
    }

    private static void number() {
        Hall.about("the NUMBER grows by 1 behind black's moves; the other side is to move");
        for (int number : new int[] {1, 2, 9, 99, 999, 9998, 9999}) {
            GameHall hall = Hall.with(ROOKS + " w KQkq - 0 " + number + " Ra2");
            Hall.due("number behind white's move", number, hall.status(9));
            Hall.due("side", 1, hall.status(5));
            Hall.play(hall, "Rb8");
            Hall.due("number behind black's move", number + 1, hall.status(9));
            Hall.due("side", 0, hall.status(5));
            Hall.due("number behind black's first move", number + 1,
                    Hall.with(ROOKS + " b KQkq - 0 " + number + " Ra7").status(9));
        }
    }

    private static void listOrder() {
        Hall.about("The LIST of a position has its LEGAL moves by from, then to, then what is become, the least first;"
                + " its places count from 0 on");
        String[] records = {Hall.START, ROOKS + " w KQkq - 0 1", ROOKS + " b KQkq - 0 1",
            "rn5k/P1P5/8/3pP3/8/2N5/QRB3PP/4K2R w K d6 0 1", "4k2r/6pp/8/8/3Pp3/8/p1p5/1N2K3 b k d3 0 1",
            "3Q4/1Q4Q1/4Q3/2Q4R/Q4Q2/3Q4/1Q4Rp/1K1BBNNk w - - 0 1"};
        for (String record : records) {
            GameHall hall = Hall.with(record);
            List<Integer> due = Oracle.read(record).game.get(0).list();
            Hall.due("moves of " + record, due.size(), hall.legalMany());
            long before = -1;
            for (int i = 0; i < due.size(); i++) {
                int move = hall.legalMove(i);
                long order = (move & 63) * 4096L + (move >> 6 & 63) * 64 + (move >> 12);
                Hall.due("move " + i + " of " + record, due.get(i), move);
                Hall.due("order at " + i + " of " + record, 1, order > before ? 1 : 0);
                before = order;
            }
        }
    }
}
