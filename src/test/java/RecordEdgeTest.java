/**
 * The document's sentences on RECORD, on what is RIGHT, and on the faults 1 to 11: a test for each,
 * on both sides of its boundary. A refused text leaves the game alone each time.
 */
public final class RecordEdgeTest {
    private static final String KINGS = "4k3/8/8/8/8/8/8/4K3";
    private static final String ROOKS = "r3k2r/8/8/8/8/8/8/R3K2R";
    private static final String[] FIELDS = {KINGS, "w", "-", "-", "0", "1"};
    private static final Desk DESK = new Desk();

    private RecordEdgeTest() {
    }

    public static void main(String[] args) {
        blanks();
        ranks();
        ranksFromTheEighth();
        letters();
        digits();
        digitsSideBySide();
        eightSquares();
        side();
        rights();
        passantField();
        clockField();
        numberField();
        zeroAhead();
        notClosed();
        behindTheSixth();
        firstField();
        kings();
        pawnsOnLastRanks();
        eightPawns();
        menAboveTheUsual();
        usualMenOfOtherKinds();
        castlingRights();
        passantPawn();
        passantSquares();
        passantClock();
        kingNotToMove();
        leastFault();
        recordBeforeMoves();
        Hall.end("RecordEdgeTest");
    }

    private static String joined(String[] fields, int gap, String between) {
        StringBuilder out = new StringBuilder(fields[0]);
        for (int k = 1; k < fields.length; k++) {
            out.append(k - 1 == gap ? between : " ").append(fields[k]);
        }
        return out.toString();
    }

    private static void blanks() {
        Hall.about("A RECORD is six fields with one blank between any two");
        Hall.taken(joined(FIELDS, -1, ""), 0);
        for (int gap = 0; gap < 5; gap++) {
            for (String between : new String[] {"", "\t", "\0", "_", "/", "\u00a0"}) {
                Hall.refused(joined(FIELDS, gap, between), gap + 1, -1);
            }
            Hall.refused(joined(FIELDS, gap, "  "), gap + 2, -1);
        }
        Hall.refused(" " + joined(FIELDS, -1, ""), 1, -1);
    }

    private static void ranks() {
        Hall.about("1: the ranks from the eighth to the first, parted by /");
        for (int many = 1; many <= 16; many++) {
            String men = "4k3" + "/8".repeat(many - 1) + "/4K3";
            if (many == 7) {
                Hall.taken(men + " w - - 0 1", 0);
            } else {
                Hall.refused(men + " w - - 0 1", 1, -1);
            }
        }
        for (int at = 0; at < KINGS.length(); at++) {
            if (KINGS.charAt(at) == '/') {
                for (String instead : new String[] {"", " ", "//", "-", "\\", "|"}) {
                    Hall.refused(KINGS.substring(0, at) + instead + KINGS.substring(at + 1) + " w - - 0 1", 1, -1);
                }
            }
        }
        Hall.refused("/" + KINGS + " w - - 0 1", 1, -1);
        Hall.refused(KINGS + "/ w - - 0 1", 1, -1);
    }

    private static void ranksFromTheEighth() {
        Hall.about("each with its squares from file a on: a letter for a man");
        GameHall hall = Hall.taken("n7/1b6/2p5/3p4/4k3/5N2/6B1/7K w - - 0 1", 0);
        int[] due = {56, 8, 49, 9, 42, 7, 35, 7, 28, 12, 21, 2, 14, 3, 7, 6};
        int men = 0;
        for (int k = 0; k < due.length; k += 2) {
            Hall.due("man on " + due[k], due[k + 1], hall.manOn(due[k]));
        }
        for (int square = 0; square < 64; square++) {
            men += hall.manOn(square) > 0 ? 1 : 0;
        }
        Hall.due("men on all squares", 8, men);
    }

    private static void letters() {
        Hall.about("a letter for a man (P N B R Q K white, p n b r q k black)");
        String letters = "PNBRQKpnbrqk";
        for (int sign = 0; sign < 256; sign++) {
            String text = "4k3/8/8/" + (char) sign + "7/8/8/8/4K3 w - - 0 1";
            int man = letters.indexOf(sign) + 1;
            DESK.due(text, man == 0 ? 1 : man % 6 == 0 ? 7 : 0);
            if (man % 6 != 0) {
                Hall.due("man " + (char) sign, man, DESK.read(text).manOn(32));
            }
        }
    }

    private static void digits() {
        Hall.about("a digit 1 .. 8 for so many empty ones");
        for (int digit = 0; digit <= 9; digit++) {
            String rank = digit + "pppppppp".substring(Math.min(8, digit));
            DESK.due("4k3/8/8/" + rank + "/8/8/8/4K3 w - - 0 1", digit >= 1 && digit <= 8 ? 0 : 1);
        }
        Hall.refused("4k3/8/8/0/8/8/8/4K3 w - - 0 1", 1, -1);
        Hall.refused("4k3/8/8/9/8/8/8/4K3 w - - 0 1", 1, -1);
        Hall.refused("4k3/8/8/p0p6/8/8/8/4K3 w - - 0 1", 1, -1);
    }

    private static void digitsSideBySide() {
        Hall.about("no two digits side by side");
        for (int first = 1; first < 8; first++) {
            Hall.refused("4k3/8/8/" + first + (8 - first) + "/8/8/8/4K3 w - - 0 1", 1, -1);
        }
        Hall.refused("4k3/8/8/3p22/8/8/8/4K3 w - - 0 1", 1, -1);
        Hall.taken("4k3/8/8/3p1p2/8/8/8/4K3 w - - 0 1", 0);
        Hall.taken("4k3/8/8/3pp3/3p4/8/8/4K3 w - - 0 1", 0);
    }

    private static void eightSquares() {
        Hall.about("eight squares each");
        for (int rank = 0; rank < 8; rank++) {
            String[] ranks = KINGS.split("/");
            String full = ranks[rank];
            boolean empty = full.equals("8");
            String king = empty ? "" : full.substring(1, 2);
            String[] faulty = empty
                    ? new String[] {"7", "", "8p", "p8", "pppppppp1", "ppppppppp", "1p5", "1p7", "p6"}
                    : new String[] {"4" + king + "2", "4" + king + "4", "3" + king + "3", "5" + king + "3", king, "8" + king};
            for (String other : faulty) {
                ranks[rank] = other;
                Hall.refused(String.join("/", ranks) + " w - - 0 1", 1, -1);
            }
            ranks[rank] = empty ? "3n1b2" : "3" + king + "4";
            Hall.taken(String.join("/", ranks) + " w - - 0 1", 0);
        }
    }

    private static void side() {
        Hall.about("2: w or b");
        for (int sign = 0; sign < 256; sign++) {
            DESK.due(KINGS + " " + (char) sign + " - - 0 1", sign == 'w' || sign == 'b' ? 0 : 2);
        }
        Hall.due("side w", 0, Hall.taken(KINGS + " w - - 0 1", 0).status(5));
        Hall.due("side b", 1, Hall.taken(KINGS + " b - - 0 1", 0).status(5));
        for (String word : new String[] {"", "ww", "wb", "bw", "w-"}) {
            Hall.refused(KINGS + " " + word + " - - 0 1", 2, -1);
        }
    }

    private static void rights() {
        Hall.about("3: - or some of K, Q, k, q in this order (1, 2, 4, 8)");
        String signs = "KQkq-";
        for (int length = 0; length <= 5; length++) {
            int all = (int) Math.round(Math.pow(5, length));
            for (int k = 0; k < all; k++) {
                StringBuilder word = new StringBuilder();
                for (int left = k, at = 0; at < length; left /= 5, at++) {
                    word.append(signs.charAt(left % 5));
                }
                rightsWord(word.toString());
            }
        }
        for (String word : new String[] {"x", "Kx", "xK", "KQkq1", "A", "E"}) {
            Hall.refused(ROOKS + " w " + word + " - 0 1", 3, -1);
        }
    }

    private static void rightsWord(String word) {
        int sum = -1;
        for (int rights = 0; rights < 16; rights++) {
            String spelled = (rights % 2 == 1 ? "K" : "") + (rights / 2 % 2 == 1 ? "Q" : "")
                    + (rights / 4 % 2 == 1 ? "k" : "") + (rights / 8 == 1 ? "q" : "");
            if (word.equals(rights == 0 ? "-" : spelled)) {
                sum = rights;
            }
        }
        String text = ROOKS + " w " + word + " - 0 1";
        DESK.due(text, sum < 0 ? 3 : 0);
        if (sum >= 0) {
            GameHall hall = DESK.read(text);
            Hall.due("rights of '" + word + "'", sum, hall.status(6));
            Hall.due("record with '" + word + "'", text, Hall.text(hall.recordAt(0)) + Hall.text(hall.recordAt(1))
                    + Hall.text(hall.recordAt(2)) + Hall.text(hall.recordAt(3)) + Hall.text(hall.recordAt(4)));
        }
    }

    private static void passantField() {
        Hall.about("4: - or a file and 6, if white is to move, 3, if black (the PASSANT)");
        String men = "4k3/8/8/pppppppp/PPPPPPPP/8/8/4K3";
        for (String side : new String[] {"w", "b"}) {
            char rank = side.equals("w") ? '6' : '3';
            for (char file : "`abcdefghi-ABH6 ".toCharArray()) {
                for (char digit = '/'; digit <= ':'; digit++) {
                    boolean right = file >= 'a' && file <= 'h' && digit == rank;
                    String text = men + " " + side + " - " + file + digit + " 0 1";
                    DESK.due(text, right ? 0 : 4);
                    if (right) {
                        Hall.due("passant of " + text, file - 'a', DESK.read(text).status(7));
                    }
                }
                Hall.due("file alone", file == '-' ? 0 : 4, DESK.read(men + " " + side + " - " + file + " 0 1").status(1));
            }
            Hall.due("no passant", -1, Hall.taken(men + " " + side + " - - 0 1", 0).status(7));
            for (String word : new String[] {"", "--", "-a" + rank, "a" + rank + rank, "ab" + rank, "" + rank + "a", "a" + rank + "-"}) {
                Hall.refused(men + " " + side + " - " + word + " 0 1", 4, -1);
            }
        }
    }

    private static void clockField() {
        Hall.about("5 the CLOCK 0 .. 999");
        for (int clock = 0; clock < 1000; clock++) {
            Hall.due("clock " + clock, clock, DESK.read(KINGS + " w - - " + clock + " 1").status(8));
        }
        for (int sign = 0; sign < 256; sign++) {
            DESK.due(KINGS + " w - - " + (char) sign + " 1", sign >= '0' && sign <= '9' ? 0 : 5);
            DESK.due(KINGS + " w - - 9" + (char) sign + " 1", sign >= '0' && sign <= '9' ? 0 : sign == ' ' ? 6 : 5);
        }
        Hall.taken(KINGS + " w - - 0 1", 0);
        Hall.taken(KINGS + " w - - 999 1", 0);
        for (String word : new String[] {"", "1000", "9990", "1234567890", "4294967296", "-1", "+1", "1.", "0x1"}) {
            Hall.refused(KINGS + " w - - " + word + " 1", 5, -1);
        }
    }

    private static void numberField() {
        Hall.about("6 the NUMBER 1 .. 9999");
        for (int number = 1; number <= 9999; number += number < 1100 || number > 9900 ? 1 : 89) {
            Hall.due("number " + number, number, DESK.read(KINGS + " w - - 0 " + number).status(9));
        }
        for (int sign = 0; sign < 256; sign++) {
            DESK.due(KINGS + " w - - 0 " + (char) sign, sign >= '1' && sign <= '9' ? 0 : 6);
        }
        Hall.taken(KINGS + " w - - 0 1", 0);
        Hall.taken(KINGS + " w - - 0 9999", 0);
        for (String word : new String[] {"", "0", "10000", "10001", "99990", "4294967297", "-1", "+1"}) {
            Hall.refused(KINGS + " w - - 0 " + word, 6, -1);
        }
    }

    private static void zeroAhead() {
        Hall.about("in digits without a 0 ahead (0 alone is one)");
        Hall.taken(KINGS + " w - - 0 1", 0);
        Hall.taken(KINGS + " w - - 10 10", 0);
        Hall.taken(KINGS + " w - - 100 1000", 0);
        for (String word : new String[] {"00", "000", "01", "001", "010", "0999", "0000"}) {
            Hall.refused(KINGS + " w - - " + word + " 1", 5, -1);
        }
        for (String word : new String[] {"00", "01", "001", "0001", "010", "09999"}) {
            Hall.refused(KINGS + " w - - 0 " + word, 6, -1);
        }
    }

    private static void notClosed() {
        Hall.about("1 .. 6 the first field of the RECORD that is not as said (also if no blank stands behind it");
        String text = "";
        Hall.refused(text, 1, -1);
        for (int field = 1; field <= 5; field++) {
            text += (field == 1 ? "" : " ") + FIELDS[field - 1];
            Hall.refused(text, field, -1);
            Hall.refused(text + "x", field, -1);
            Hall.refused(text + " ", field + 1, -1);
        }
        Hall.taken(text + " 1", 0);
    }

    private static void behindTheSixth() {
        Hall.about("behind the sixth the end or a blank");
        String record = "4k3/8/8/8/8/8/4P3/4K3 w - - 0 1";
        Hall.taken(record, 0);
        Hall.taken(record + " e4", 1);
        for (int sign = 0; sign < 256; sign++) {
            boolean digit = sign >= '0' && sign <= '9';
            DESK.due(record + (char) sign, digit ? 0 : sign == ' ' ? 21 : 6);
            DESK.due(record + (char) sign + "e4", sign == ' ' ? 0 : 6);
        }
    }

    private static void firstField() {
        Hall.about("It is read from its beginning on; the first fault refuses it");
        String[] faulty = {"8/8", "x", "qK", "e5", "01", "0"};
        for (int set = 1; set < 64; set++) {
            String[] fields = FIELDS.clone();
            for (int k = 0; k < 6; k++) {
                fields[k] = (set >> k & 1) == 1 ? faulty[k] : fields[k];
            }
            Hall.refused(joined(fields, -1, ""), Integer.numberOfTrailingZeros(set) + 1, -1);
        }
        // The fields come before what the position lacks, and that before the moves.
        Hall.refused("8/8/8/8/8/8/8/8 w KQkq e6 9 0", 6, -1);
        Hall.refused("8/8/8/8/8/8/8/8 w KQkq e6 9 1", 7, -1);
    }

    private static Oracle board() {
        Oracle x = new Oracle();
        x.number = 1;
        x.men[4] = 6;
        x.men[60] = 12;
        return x;
    }

    private static void kings() {
        Hall.about("there is one king of each side, ... 7 the kings");
        for (int white = 0; white <= 3; white++) {
            for (int black = 0; black <= 3; black++) {
                Oracle x = new Oracle();
                x.number = 1;
                for (int k = 0; k < white; k++) {
                    x.men[2 * k] = 6;
                }
                for (int k = 0; k < black; k++) {
                    x.men[56 + 2 * k] = 12;
                }
                for (x.side = 0; x.side < 2; x.side++) {
                    DESK.due(x.record(), white == 1 && black == 1 ? 0 : 7);
                }
            }
        }
    }

    private static void pawnsOnLastRanks() {
        Hall.about("no pawn on the first or eighth rank; ... 8 a pawn on those ranks");
        for (int square = 0; square < 64; square++) {
            for (int pawn = 1; pawn <= 7; pawn += 6) {
                Oracle x = board();
                x.men[x.men[square] == 0 ? square : square + 1] = pawn;
                x.men[4] = 6;
                x.men[60] = 12;
                x.side = pawn == 1 ? 1 : 0;
                DESK.due(x.record(), square < 8 || square >= 56 ? 8 : 0);
            }
        }
    }

    /** One side has these men and a king, the other side a king alone and the move. */
    private static String army(int side, int pawns, int[] others) {
        Oracle x = new Oracle();
        x.number = 1;
        x.side = 1 - side;
        x.men[side == 0 ? 0 : 63] = 6 + 6 * side;
        x.men[side == 0 ? 63 : 0] = 12 - 6 * side;
        for (int k = 0; k < pawns; k++) {
            x.men[9 + k] = 1 + 6 * side;
        }
        int square = 24;
        for (int kind = 2; kind <= 5; kind++) {
            for (int k = 0; k < others[kind]; k++) {
                x.men[square++] = kind + 6 * side;
            }
        }
        return x.record();
    }

    private static void eightPawns() {
        Hall.about("of each side at most 8 pawns ... or too many men");
        for (int side = 0; side < 2; side++) {
            for (int pawns = 0; pawns <= 12; pawns++) {
                DESK.due(army(side, pawns, new int[6]), pawns <= 8 ? 0 : 8);
            }
        }
        Hall.taken("4k3/pppppppp/8/8/8/8/PPPPPPPP/4K3 w - - 0 1", 0);
        Hall.refused("4k3/pppppppp/8/8/8/P7/PPPPPPPP/4K3 w - - 0 1", 8, -1);
        Hall.refused("4k3/pppppppp/p7/8/8/8/PPPPPPPP/4K3 w - - 0 1", 8, -1);
    }

    private static void menAboveTheUsual() {
        Hall.about("what it has above 2 knights, 2 bishops, 2 rooks and 1 queen is together"
                + " not more than the pawns that it has fewer than 8");
        int[] usual = {0, 0, 2, 2, 2, 1};
        for (int side = 0; side < 2; side++) {
            for (int pawns = 0; pawns <= 8; pawns++) {
                for (int kind = 2; kind <= 5; kind++) {
                    int[] men = usual.clone();
                    men[kind] += 8 - pawns;
                    DESK.due(army(side, pawns, men), 0);
                    men[kind]++;
                    DESK.due(army(side, pawns, men), 8);
                }
            }
            // What the other side has not grown does not help.
            Hall.refused(army(side, 8, new int[] {0, 0, 3, 0, 0, 0}), 8, -1);
        }
        Hall.taken("7k/8/8/8/NNN5/BBBRRRQQ/PPPP4/K7 b - - 0 1", 0);
        Hall.refused("7k/8/8/8/NNN5/BBBRRRQQ/PPPPP3/K7 b - - 0 1", 8, -1);
    }

    private static void usualMenOfOtherKinds() {
        Hall.about("is together not more than");
        int[] usual = {0, 0, 2, 2, 2, 1};
        for (int mix = 0; mix < 256; mix++) {
            int[] men = new int[6];
            int more = 0;
            for (int kind = 2; kind <= 5; kind++) {
                int way = mix >> 2 * (kind - 2) & 3;
                men[kind] = way == 0 ? 0 : usual[kind] + way - 1;
                more += Math.max(0, way - 1);
            }
            for (int pawns = 0; pawns <= 8; pawns += 2) {
                DESK.due(army(mix % 2, pawns, men), more <= 8 - pawns ? 0 : 8);
            }
        }
    }

    private static void castlingRights() {
        Hall.about("for each right to castle the king and the rook stand on e and h (king's side)"
                + " or a (queen's) of their own first rank; ... 9 a right to castle");
        int[] corners = {7, 0, 63, 56};
        for (int k = 0; k < 4; k++) {
            int own = k < 2 ? 0 : 1;
            int home = k < 2 ? 4 : 60;
            for (int side = 0; side < 2; side++) {
                Oracle x = board();
                x.side = side;
                x.rights = 1 << k;
                DESK.due(x.record(), 9);
                for (int man = 1; man <= 12; man++) {
                    x.men[corners[k]] = man;
                    int fault = man % 6 == 0 ? 7 : man % 6 == 1 ? 8 : man == 4 + 6 * own ? 0 : 9;
                    DESK.due(x.record(), fault);
                }
                x.men[corners[k]] = 4 + 6 * own;
                for (int aside = -1; aside <= 1; aside++) {
                    Oracle y = Oracle.copy(x);
                    y.men[home] = 0;
                    y.men[home + aside] = 6 + 6 * own;
                    DESK.due(y.record(), aside == 0 ? 0 : 9);
                }
                // A rook on the other corners, or one square off, is none.
                Oracle z = Oracle.copy(x);
                z.men[corners[k]] = 0;
                z.men[corners[k ^ 1]] = 4 + 6 * own;
                DESK.due(z.record(), 9);
                z.men[corners[k] + (corners[k] % 8 == 0 ? 1 : -1)] = 4 + 6 * own;
                DESK.due(z.record(), 9);
            }
        }
        Hall.taken(ROOKS + " w KQkq - 0 1", 0);
        Hall.refused("r3k2r/8/8/8/8/8/8/R3K1R1 w KQkq - 0 1", 9, -1);
    }

    /** A position with a passant of this file: the side to move, and the pawn that went two ranks. */
    private static Oracle passed(int side, int file) {
        Oracle x = new Oracle();
        x.number = 1;
        x.side = side;
        x.passant = file;
        x.men[(file + 3) % 8] = 6;
        x.men[56 + (file + 5) % 8] = 12;
        x.men[file + (side == 0 ? 32 : 24)] = side == 0 ? 7 : 1;
        return x;
    }

    private static void passantPawn() {
        Hall.about("with a PASSANT a pawn of the side that is not to move stands on that file on its fourth rank");
        for (int side = 0; side < 2; side++) {
            for (int file = 0; file < 8; file++) {
                Oracle x = passed(side, file);
                int fourth = file + (side == 0 ? 32 : 24);
                DESK.due(x.record(), 0);
                for (int man = 0; man <= 11; man++) {
                    if (man != 6) {
                        x.men[fourth] = man;
                        DESK.due(x.record(), man == (side == 0 ? 7 : 1) ? 0 : 10);
                    }
                }
                x.men[fourth] = 0;
                for (int rank = 1; rank <= 6; rank++) {
                    x.men[8 * rank + file] = side == 0 ? 7 : 1;
                    DESK.due(x.record(), rank == (side == 0 ? 4 : 3) ? 0 : 10);
                    x.men[8 * rank + file] = 0;
                }
                x.men[fourth] = side == 0 ? 7 : 1;
                x.passant = (file + 1) % 8;
                DESK.due(x.record(), 10);
            }
        }
        Hall.refused("4k3/8/8/4P3/8/8/8/4K3 w - e6 0 1", 10, -1);
    }

    private static void passantSquares() {
        Hall.about("its third and second rank there are empty");
        for (int side = 0; side < 2; side++) {
            for (int file = 0; file < 8; file++) {
                for (int man = 1; man <= 11; man++) {
                    for (int rank = 1; rank <= 6 && man != 6; rank++) {
                        Oracle x = passed(side, file);
                        boolean taken = x.men[8 * rank + file] != 0;
                        x.men[8 * rank + file] = taken ? x.men[8 * rank + file] : man;
                        boolean needed = rank == (side == 0 ? 5 : 2) || rank == (side == 0 ? 6 : 1);
                        boolean struck = x.attacked(x.king(1 - side), side);
                        DESK.due(x.record(), needed ? 10 : struck ? 11 : 0);
                    }
                }
            }
        }
    }

    private static void passantClock() {
        Hall.about("and the CLOCK is 0; ... 10 the PASSANT");
        for (int side = 0; side < 2; side++) {
            for (int file = 0; file < 8; file++) {
                for (int clock : new int[] {0, 1, 2, 10, 100, 999}) {
                    Oracle x = passed(side, file);
                    x.clock = clock;
                    DESK.due(x.record(), clock == 0 ? 0 : 10);
                    x.passant = -1;
                    DESK.due(x.record(), 0);
                }
            }
        }
        Hall.taken("4k3/8/8/4p3/8/8/8/4K3 w - e6 0 1", 0);
        Hall.refused("4k3/8/8/4p3/8/8/8/4K3 w - e6 1 1", 10, -1);
    }

    private static void kingNotToMove() {
        Hall.about("and the king of the side that is not to move is not ATTACKED. ... 11 the king that is attacked");
        Hall.refused("4k3/8/8/8/8/8/8/4RK2 w - - 0 1", 11, -1);
        Hall.taken("4k3/8/8/8/8/8/8/4RK2 b - - 0 1", 0);
        Hall.taken("4k3/8/8/8/4n3/8/8/4RK2 w - - 0 1", 0);
        Hall.refused("4rk2/8/8/8/8/8/8/4K3 b - - 0 1", 11, -1);
        Hall.taken("4rk2/8/8/8/8/8/8/4K3 w - - 0 1", 0);
        // Both kings beside one another are attacked, whoever is to move.
        Hall.refused("8/8/8/3kK3/8/8/8/8 w - - 0 1", 11, -1);
        Hall.refused("8/8/8/3kK3/8/8/8/8 b - - 0 1", 11, -1);
        Hall.taken("8/8/8/2k1K3/8/8/8/8 w - - 0 1", 0);
    }

    private static void leastFault() {
        Hall.about("(of 7 to 11, and of those of one move, the least number that holds)");
        for (int set = 0; set < 32; set++) {
            Oracle x = board();
            x.men[55] = 7;
            x.men[31] = (set & 1) == 0 ? 0 : 6;
            x.men[1] = (set & 2) == 0 ? 0 : 1;
            x.rights = (set & 4) == 0 ? 0 : 1;
            x.passant = (set & 8) == 0 ? -1 : 0;
            x.men[28] = (set & 16) == 0 ? 0 : 4;
            if (set == 0) {
                Hall.taken(x.record(), 0);
            } else {
                Hall.refused(x.record(), 7 + Integer.numberOfTrailingZeros(set), -1);
            }
            Hall.refused(x.record().replaceAll("1$", "0"), 6, -1);
        }
    }

    private static void recordBeforeMoves() {
        Hall.about("A TEXT is a RECORD, and behind it any number of moves, a blank ahead of each");
        Hall.refused("4k3/8/8/8/8/8/8/4RK2 w - - 0 1 Rxe8", 11, -1);
        Hall.refused("4k3/8/8/8/8/8/8/4RK2 w - - 0 1 nonsense", 11, -1);
        Hall.refused("4k3/8/8/8/8/8/8/4RK2 b - - 0 1 nonsense", 21, 0);
        Hall.taken("4k3/8/8/8/8/8/8/4RK2 b - - 0 1", 0);
        Hall.taken("4k3/8/8/8/8/8/8/4RK2 b - - 0 1 Kd7", 1);
        Hall.taken("4k3/8/8/8/8/8/8/4RK2 b - - 0 1 Kd7 Rd1+", 2);
        Hall.refused("4k3/8/8/8/8/8/8/4RK2 b - - 0 1Kd7", 6, -1);
        Hall.refused("4k3/8/8/8/8/8/8/4RK2 b - - 0 1 Kd7Rd1+", 21, 0);
        Hall.refused("4k3/8/8/8/8/8/8/4RK2 b - - 0 1 Kd7  Rd1+", 21, 1);
    }
}
