/** The document's sentences on SPELLING: a test for each, on both sides of its boundary. */
public final class SpellEdgeTest {
    private static final String ROOKS = "r3k2r/8/8/8/8/8/8/R3K2R";

    private SpellEdgeTest() {
    }

    public static void main(String[] args) {
        castlingSpelled();
        manSpelled();
        pawnSpelled();
        checkSpelled();
        origin();
        Hall.end("SpellEdgeTest");
    }

    private static int square(String name) {
        return name.charAt(0) - 'a' + 8 * (name.charAt(1) - '1');
    }

    /** With the sides changed the spelling differs by its ranks alone. */
    private static void spelled(String record, String move, String due) {
        spelledAsItIs(record, move, due);
        spelledAsItIs(Hall.mirrored(record), Hall.otherRanks(move), Hall.otherRanks(due));
    }

    private static void spelledAsItIs(String record, String move, String due) {
        Oracle x = Oracle.read(record).game.get(0);
        GameHall hall = Hall.with(record);
        int from = square(move.substring(0, 2));
        int become = move.length() == 4 ? 0 : Oracle.LETTERS.indexOf(move.charAt(4));
        int wanted = from + 64 * square(move.substring(2, 4)) + 4096 * become;
        int place = x.list().indexOf(wanted);
        Hall.due("spelling of " + move + " in " + record, due, Hall.text(hall.spelling(place)));
        // The text takes this spelling, and the game stands behind the move.
        Hall.due("text with " + due, 1, Hall.submit(hall, record + " " + due));
        Hall.due("move read for " + due, "" + wanted, Hall.answer(() -> hall.historyOf(1, 3)));
    }

    private static void castlingSpelled() {
        Hall.about("a castling one is 0-0 to the king's side, 0-0-0 to the queen's");
        spelled(ROOKS + " w KQkq - 0 1", "e1g1", "0-0");
        spelled(ROOKS + " w KQkq - 0 1", "e1c1", "0-0-0");
        spelled(ROOKS + " b KQkq - 0 1", "e8g8", "0-0");
        spelled(ROOKS + " b KQkq - 0 1", "e8c8", "0-0-0");
        spelled("5k2/8/8/8/8/8/8/4K2R w K - 0 1", "e1g1", "0-0+");
        spelled("3k4/8/8/8/8/8/8/R3K3 w Q - 0 1", "e1c1", "0-0-0+");
        spelled("5k2/8/8/4R1R1/8/8/8/4K2R w K - 0 1", "e1g1", "0-0#");
        spelled("3k4/8/8/2R1R3/8/8/8/R3K3 w Q - 0 1", "e1c1", "0-0-0#");
    }

    private static void manSpelled() {
        Hall.about("Another man than a pawn: K, Q, R, B or N; its ORIGIN; x if it takes; the square it goes to"
                + " (file a .. h and rank 1 .. 8)");
        String record = "7k/8/2p1p3/pR6/3N4/2K1Q3/8/5B2 w - - 0 1";
        spelled(record, "c3b2", "Kb2");
        spelled(record, "e3g1", "Qg1");
        spelled(record, "e3e6", "Qxe6");
        spelled(record, "b5b8", "Rb8+");
        spelled(record, "b5a5", "Rxa5");
        spelled(record, "f1h3", "Bh3");
        spelled(record, "d4f3", "Nf3");
        spelled(record, "d4c6", "Nxc6");
        spelled("k7/7p/8/8/8/8/1n6/K7 w - - 0 1", "a1b2", "Kxb2");
        spelled("k7/7p/8/8/8/8/1n6/K7 b - - 0 1", "b2d1", "Nd1");
        spelled("Q6k/8/8/8/8/8/8/K7 b - - 0 1", "h8g7", "Kg7");
        spelled("7k/8/8/8/8/8/8/K5R1 w - - 0 1", "g1g8", "Rg8+");
        spelled("8/7k/8/8/8/8/P7/K6B w - - 0 1", "h1a8", "Ba8");
    }

    private static void pawnSpelled() {
        Hall.about("A pawn: if the file changes, its file and x; the square; the letter of what it becomes, if it does");
        spelled("7k/8/8/8/8/8/P7/7K w - - 0 1", "a2a3", "a3");
        spelled("7k/8/8/8/8/8/P7/7K w - - 0 1", "a2a4", "a4");
        spelled("7k/8/8/8/8/1n6/P7/7K w - - 0 1", "a2b3", "axb3");
        spelled("7k/8/8/pP6/8/8/8/7K w - a6 0 1", "b5a6", "bxa6");
        // Two pawns that come to one square are told apart by the file they come from.
        spelled("7k/8/8/8/8/3n4/2P1P3/7K w - - 0 1", "c2d3", "cxd3");
        spelled("7k/8/8/8/8/3n4/2P1P3/7K w - - 0 1", "e2d3", "exd3");
        spelled("1n6/P6k/8/8/8/8/8/7K w - - 0 1", "a7a8N", "a8N");
        spelled("1n6/P6k/8/8/8/8/8/7K w - - 0 1", "a7a8B", "a8B");
        spelled("1n6/P6k/8/8/8/8/8/7K w - - 0 1", "a7a8R", "a8R");
        spelled("1n6/P6k/8/8/8/8/8/7K w - - 0 1", "a7a8Q", "a8Q");
        spelled("1n6/P6k/8/8/8/8/8/7K w - - 0 1", "a7b8Q", "axb8Q");
        spelled("7k/8/8/8/8/8/p7/1N5K b - - 0 1", "a2b1N", "axb1N");
        spelled("7k/8/8/8/8/8/p7/1N5K b - - 0 1", "a2a1Q", "a1Q");
    }

    private static void checkSpelled() {
        Hall.about("Behind each + if the other side's king is ATTACKED then, but # instead, if besides the other side"
                + " has no LEGAL move");
        spelled("7k/8/8/8/8/8/8/K5R1 w - - 0 1", "g1h1", "Rh1+");
        spelled("7k/8/8/8/8/8/8/K5R1 w - - 0 1", "g1f1", "Rf1");
        spelled("7k/6pp/8/8/8/8/8/KR6 w - - 0 1", "b1b8", "Rb8#");
        spelled("7k/6p1/8/8/8/8/8/KR6 w - - 0 1", "b1b8", "Rb8+");
        spelled("7k/5K2/8/8/8/8/8/5Q2 w - - 0 1", "f1h3", "Qh3#");
        // No move is left, but the king is not attacked: nothing stands behind.
        spelled("7k/8/6K1/8/8/8/8/5Q2 w - - 0 1", "f1f7", "Qf7");
        spelled("7k/8/6K1/8/8/8/8/5Q2 w - - 0 1", "f1f8", "Qf8#");
        spelled("7k/5P2/7K/8/8/8/8/8 w - - 0 1", "f7f8Q", "f8Q#");
        spelled("7k/5P2/7K/8/8/8/8/8 w - - 0 1", "f7f8R", "f8R#");
        spelled("7k/5P2/7K/8/8/8/8/8 w - - 0 1", "f7f8B", "f8B");
        spelled("7k/5P2/6K1/8/8/8/8/8 w - - 0 1", "f7f8R", "f8R#");
        // A man that steps aside opens the line of another.
        spelled("4k3/8/8/8/8/8/4B3/K3R3 w - - 0 1", "e2d1", "Bd1+");
        spelled("4k3/8/8/8/8/8/4K3/4R3 w - - 0 1", "e2d2", "Kd2+");
        spelled("4k3/8/8/3pP3/8/8/8/K3R3 w - d6 0 1", "e5d6", "exd6+");
        spelled("4k3/4P3/8/8/8/8/8/K7 w - - 0 1", "a1b1", "Kb1");
    }

    private static void origin() {
        Hall.about("The ORIGIN: LEGAL moves of the same man to the same square from other squares are its RIVALS. Nothing if"
                + " it has none; else its file, if no rival has it; else its rank, if no rival has that; else its file and rank");
        String none = "7k/8/8/8/8/8/8/KN4N1 w - - 0 1";
        spelled(none, "b1d2", "Nd2");
        spelled(none, "g1f3", "Nf3");
        String files = "7k/8/8/8/8/8/8/K2N1N2 w - - 0 1";
        spelled(files, "d1e3", "Nde3");
        spelled(files, "f1e3", "Nfe3");
        spelled(files, "d1f2", "Nf2");
        // On one rank and on other ranks: the file is enough, wherever it is another one.
        spelled("7k/8/8/8/8/5N2/8/K1N5 w - - 0 1", "c1e2", "Ne2");
        spelled("7k/8/8/8/5N2/8/8/K1N5 w - - 0 1", "c1e2", "Nce2");
        spelled("7k/8/8/8/5N2/8/8/K1N5 w - - 0 1", "f4e2", "Nfe2");
        String ranks = "7k/8/8/2N5/8/8/8/K1N5 w - - 0 1";
        spelled(ranks, "c1b3", "N1b3");
        spelled(ranks, "c5b3", "N5b3");
        spelled("R7/7k/8/8/8/8/7K/R7 w - - 0 1", "a1a5", "R1a5");
        spelled("R7/7k/8/8/8/8/7K/R7 w - - 0 1", "a8a5", "R8a5");
        spelled("R7/7k/8/8/8/8/7K/R7 w - - 0 1", "a8b8", "Rb8");
        String three = "6k1/8/8/8/Q6Q/8/7K/Q7 w - - 0 1";
        spelled(three, "a4d4", "Qa4d4");
        spelled(three, "a1d4", "Q1d4");
        spelled(three, "h4d4", "Qhd4");
        // The rival's move is the first one of the list, or the last one.
        spelled("7k/8/8/8/8/8/7K/R1R5 w - - 0 1", "c1b1", "Rcb1");
        spelled("7k/8/8/8/8/8/7K/R1R5 w - - 0 1", "a1b1", "Rab1");
        spelled("2R1R3/7k/8/8/8/8/8/K7 w - - 0 1", "c8d8", "Rcd8");
        spelled("2R1R3/7k/8/8/8/8/8/K7 w - - 0 1", "e8d8", "Red8");
        // A rival that is pinned has no such move; a man of another kind or side is none.
        spelled("7k/8/8/4N3/8/8/8/4K1N1 w - - 0 1", "g1f3", "Ngf3");
        spelled("4r2k/8/8/4N3/8/8/8/4K1N1 w - - 0 1", "g1f3", "Nf3");
        spelled("7k/8/8/8/8/8/B7/K2R4 w - - 0 1", "d1b1", "Rb1");
        spelled("7k/8/8/8/2n5/8/8/K4N2 w - - 0 1", "f1d2", "Nd2");
        spelled("7k/8/8/8/8/8/8/KQ1R4 w - - 0 1", "d1c1", "Rc1");
    }
}
