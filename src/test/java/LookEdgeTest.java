/**
 * The sentences on VALUE, BEST, DISTANCE and MATING and under promises 11 to 15: a test for each, on
 * both sides of its boundary, and that a call, refused or not, changes nothing.
 */
public final class LookEdgeTest {
    private static final Class<IllegalStateException> STATE = IllegalStateException.class;
    private static final Class<IllegalArgumentException> ARGUMENT = IllegalArgumentException.class;
    private static final int LEAST = Integer.MIN_VALUE;
    private static final int MOST = Integer.MAX_VALUE;
    private static final String MATE = "7k/6Q1/6K1/8/8/8/8/8 b - - 0 1";
    private static final String STALEMATE = "7k/5Q2/6K1/8/8/8/8/8 b - - 0 1";
    /** With 30 and with 31 legal moves, both of four men or more. */
    private static final String THIRTY = "7k/8/8/3Q4/8/8/P7/K7 w - - 0 1";
    private static final String THIRTY_ONE = "7k/8/8/3Q4/8/8/PP6/K7 w - - 0 1";
    /** Three men and 35 legal moves. */
    private static final String QUEEN = "8/8/8/8/4Q3/8/1K6/5k2 w - - 0 1";

    private LookEdgeTest() {
    }

    public static void main(String[] args) {
        linesOfNone();
        linesDepth();
        linesThree();
        noGame();
        valueOfMate();
        valueOfStalemate();
        valueOfMen();
        valueTurned();
        valueOfWhatCameBefore();
        valueDepth();
        valueThree();
        valueThreeMen();
        bestIsTheFirst();
        bestOfNone();
        bestDepth();
        distanceOfMate();
        distanceOfOneMan();
        distanceWithoutRights();
        distanceWithPassant();
        distanceOfTheKingAlone();
        distanceOfTheOther();
        distanceOfTheLongestWays();
        distanceOfNone();
        distancesInTurn();
        matingMove();
        matingMoveOfNone();
        Hall.end("LookEdgeTest");
    }

    private static Hall.Maker at(String text) {
        return () -> Hall.with(text);
    }

    private static void linesOfNone() {
        Hall.about("Promise 11: How many lines of depth LEGAL moves there are (1 for 0)");
        String[] texts = {Hall.START, MATE, STALEMATE, QUEEN, THIRTY, "8/8/8/4k3/8/8/8/K7 w - - 0 1"};
        for (String text : texts) {
            Hall.answers("lines 0", at(text), 1, h -> h.linesTo(0));
            Oracle x = Oracle.read(text).game.get(0);
            for (int depth = 1; depth <= 2; depth++) {
                int d = depth;
                Hall.answers("lines " + d + " of " + text, at(text), x.lines(d), h -> h.linesTo(d));
            }
        }
        Hall.answers("no line of mate", at(MATE), 0, h -> h.linesTo(1));
        Hall.answers("no line of three of mate", at(MATE), 0, h -> h.linesTo(3));
        Hall.answers("no line of stalemate", at(STALEMATE), 0, h -> h.linesTo(2));
        // A line ends early at a mate: it is none of that depth.
        Hall.answers("lines over a mate", at("7k/8/6K1/8/8/8/8/R7 w - - 0 1"),
                Oracle.read("7k/8/6K1/8/8/8/8/R7 w - - 0 1").game.get(0).lines(2), h -> h.linesTo(2));
    }

    private static void linesDepth() {
        Hall.about("Promise 11: IllegalArgumentException if depth is not 0 .. 2");
        for (String text : new String[] {Hall.START, MATE, QUEEN, THIRTY, THIRTY_ONE}) {
            for (int depth : new int[] {-1, 4, 5, -2, 100, LEAST, MOST}) {
                Hall.refuses("lines " + depth + " of " + text, at(text), ARGUMENT, h -> h.linesTo(depth));
            }
            for (int depth = 0; depth <= 2; depth++) {
                Hall.due("lines " + depth + " of " + text, Oracle.read(text).game.get(0).lines(depth), Hall.with(text).linesTo(depth));
            }
        }
    }

    private static void linesThree() {
        Hall.about("Promise 11: or 3, where the LIST has at most 30 moves");
        Hall.due("moves", 30, Hall.with(THIRTY).legalMany());
        Hall.due("moves", 31, Hall.with(THIRTY_ONE).legalMany());
        Hall.answers("30 moves", at(THIRTY), Oracle.read(THIRTY).game.get(0).lines(3), h -> h.linesTo(3));
        Hall.refuses("31 moves", at(THIRTY_ONE), ARGUMENT, h -> h.linesTo(3));
        Hall.answers("20 moves", at(Hall.START), 8902, h -> h.linesTo(3));
        // Three men do not change it for lines.
        int many = Hall.with(QUEEN).legalMany();
        Hall.due("more than 30 moves with three men", 1, many > 30 ? 1 : 0);
        Hall.refuses("three men", at(QUEEN), ARGUMENT, h -> h.linesTo(3));
        Hall.refuses("three men, 4", at("8/8/8/8/8/2k5/7R/2K5 w - - 0 1"), ARGUMENT, h -> h.linesTo(4));
        // The list is the position's, not that of the game's first one.
        Hall.refuses("31 moves behind a move", at("7k/8/8/3Q4/8/P7/1P6/K7 w - - 0 1 Kb1 Kh7"), ARGUMENT, h -> h.linesTo(3));
    }

    private static void noGame() {
        Hall.about("Promises 11 to 15: IllegalStateException if there is no game");
        for (int depth : new int[] {0, 1, 2, 3, 4, 5, -1}) {
            Hall.refuses("lines " + depth, () -> new GameHall(1), STATE, h -> h.linesTo(depth));
            Hall.refuses("value " + depth, () -> new GameHall(1), STATE, h -> h.valueAt(depth));
            Hall.refuses("best " + depth, () -> new GameHall(1), STATE, h -> h.bestAt(depth));
        }
        Hall.refuses("distance", () -> new GameHall(1), STATE, GameHall::distanceToMate);
        Hall.refuses("mating move", () -> new GameHall(1), STATE, GameHall::matingMove);
        GameHall hall = Hall.with(QUEEN);
        Hall.due("lines with a game", 1, hall.linesTo(0));
        Hall.due("value with a game", 9, hall.valueAt(0));
        Hall.due("best with a game", -1, hall.bestAt(0));
        Hall.due("distance with a game", 1, hall.distanceToMate() > 0 ? 1 : 0);
        Hall.due("mating move with a game", 1, hall.matingMove() >= 0 ? 1 : 0);
    }

    /** The value is the same with the sides changed. */
    private static void value(String text, int depth, int due) {
        Hall.answers("value " + depth + " of " + text, at(text), due, h -> h.valueAt(depth));
        String other = Hall.mirrored(text);
        Hall.due("value " + depth + " of " + other, due, Hall.with(other).valueAt(depth));
    }

    private static void valueOfMate() {
        Hall.about("The VALUE V(x, d) of a position at a depth d, for the side to move: -1000 if it is mate");
        for (int depth = 0; depth <= 4; depth++) {
            value(MATE, depth, -1000);
            value("8/8/8/8/8/6k1/6q1/7K w - - 0 1", depth, -1000);
        }
        value("7k/6Q1/4K3/8/8/8/8/8 b - - 0 1", 0, -9);
        value("7k/6Q1/4K3/8/8/8/8/8 b - - 0 1", 1, 0);
    }

    private static void valueOfStalemate() {
        Hall.about("0 if it is stalemate");
        for (int depth = 0; depth <= 4; depth++) {
            value(STALEMATE, depth, 0);
            value("8/8/8/8/8/6k1/5q2/7K w - - 0 1", depth, 0);
        }
        value("7k/5Q2/6K1/8/8/p7/8/8 b - - 0 1", 0, -8);
        // The best that white has is to stalemate black at once; all other moves leave black a pawn ahead.
        value("8/8/8/8/8/3K4/p7/k7 w - - 0 1", 0, -1);
        for (int depth = 1; depth <= 4; depth++) {
            value("8/8/8/8/8/3K4/p7/k7 w - - 0 1", depth, 0);
            best("8/8/8/8/8/3K4/p7/k7 w - - 0 1", depth, "Kc2");
        }
        // Stalemate is worse than what there is besides.
        value("7k/8/6K1/8/8/8/8/5Q2 w - - 0 1", 1, 999);
    }

    private static void valueOfMen() {
        Hall.about("else, if d is 0, the sum of the men of that side less that of the other's"
                + " (pawn 1, knight and bishop 3, rook 5, queen 9)");
        String[] men = {"P", "N", "B", "R", "Q"};
        int[] worth = {1, 3, 3, 5, 9};
        for (int k = 0; k < men.length; k++) {
            String white = "7k/8/8/8/8/8/" + men[k] + "7/K7 ";
            String black = "7k/" + men[k].toLowerCase() + "7/8/8/8/8/8/1K6 ";
            value(white + "w - - 0 1", 0, worth[k]);
            value(white + "b - - 0 1", 0, -worth[k]);
            value(black + "b - - 0 1", 0, worth[k]);
            value(black + "w - - 0 1", 0, -worth[k]);
        }
        value(Hall.START, 0, 0);
        value("7k/8/8/8/8/8/8/K7 w - - 0 1", 0, 0);
        value("7k/pp6/8/8/8/8/NNBBRRQ1/K7 b - - 0 1", 0, -29);
        value("7k/pp6/8/8/8/8/NNBBRRQ1/1K6 w - - 0 1", 0, 29);
    }

    private static void valueTurned() {
        Hall.about("else the greatest of B(V(y, d - 1)) for all LEGAL moves to a position y; B(v) is -v, but -v + 1 if that is"
                + " below -900, and -v - 1 if it is above 900");
        // Mate in one is 999 from depth 1 on; to be mated behind one's own move is -998; mate in two is 997.
        String inOne = "k7/8/1K6/8/8/8/8/7R w - - 0 1";
        value(inOne, 0, 5);
        for (int depth = 1; depth <= 4; depth++) {
            value(inOne, depth, 999);
        }
        String lost = "7k/5K2/8/8/8/8/8/6R1 b - - 0 1";
        value(lost, 0, -5);
        value(lost, 1, -5);
        for (int depth = 2; depth <= 4; depth++) {
            value(lost, depth, -998);
        }
        String inTwo = "7k/8/5K2/8/8/8/8/6R1 w - - 0 1";
        value(inTwo, 1, 5);
        value(inTwo, 2, 5);
        value(inTwo, 3, 997);
        value(inTwo, 4, 997);
        String lostInTwo = "7k/8/5K2/8/8/8/8/R7 b - - 0 1";
        Oracle x = Oracle.read(lostInTwo).game.get(0);
        for (int depth = 0; depth <= 4; depth++) {
            value(lostInTwo, depth, x.value(depth));
        }
        value("8/8/8/8/8/1k6/8/K6r w - - 0 1", 4, -1000);
        value("8/8/8/8/1k6/8/8/K6r w - - 0 1", 4, -5);
        // Ordinary values only change their sign.
        value("7k/8/8/8/8/1p6/8/K1N5 w - - 0 1", 1, 3);
        value("k2q4/8/8/8/8/8/8/K2Q4 w - - 0 1", 1, 9);
        value("k2q4/8/8/8/8/8/8/K2Q4 b - - 0 1", 1, 9);
        value(Hall.START, 2, 0);
    }

    private static void valueOfWhatCameBefore() {
        Hall.about("(What came before does not matter, nor COUNTS and CLOCKS.)");
        String five = Hall.START + " Nf3 Nf6 Ng1 Ng8".repeat(4);
        for (int depth = 0; depth <= 3; depth++) {
            int d = depth;
            Hall.due("value " + d + " behind five times", Hall.with(Hall.START).valueAt(d), Hall.with(five).valueAt(d));
            Hall.due("best " + d + " behind five times", Hall.with(Hall.START).bestAt(d), Hall.with(five).bestAt(d));
            for (int clock : new int[] {0, 99, 100, 149, 150, 999}) {
                String text = "k7/8/1K6/8/8/8/8/7R w - - " + clock + " 1";
                value(text, d, d == 0 ? 5 : 999);
            }
            // A dead position is worth its men.
            value("8/8/8/4k3/8/8/8/4KB2 w - - 0 1", d, 3);
            value("8/8/8/4k3/8/8/8/4KB2 b - - 0 1", d, -3);
        }
    }

    private static void valueDepth() {
        Hall.about("Promise 12: IllegalArgumentException if depth is not 0 .. 2");
        String four = "7k/p7/8/8/8/8/8/KR6 w - - 0 1";
        for (String text : new String[] {Hall.START, THIRTY, THIRTY_ONE, four}) {
            for (int depth : new int[] {-1, 4, 5, -4, 100, LEAST, MOST}) {
                Hall.refuses("value " + depth + " of " + text, at(text), ARGUMENT, h -> h.valueAt(depth));
            }
            for (int depth = 0; depth <= 2; depth++) {
                value(text, depth, Oracle.read(text).game.get(0).value(depth));
            }
        }
    }

    private static void valueThree() {
        Hall.about("Promise 12: or 3, where the LIST has at most 30 moves");
        value(THIRTY, 3, Oracle.read(THIRTY).game.get(0).value(3));
        Hall.refuses("value 3 of 31 moves", at(THIRTY_ONE), ARGUMENT, h -> h.valueAt(3));
        Hall.refuses("best 3 of 31 moves", at(THIRTY_ONE), ARGUMENT, h -> h.bestAt(3));
        value("7k/p7/8/8/8/8/8/KR6 w - - 0 1", 3, Oracle.read("7k/p7/8/8/8/8/8/KR6 w - - 0 1").game.get(0).value(3));
    }

    private static void valueThreeMen() {
        Hall.about("Promise 12: or with at most three men 0 .. 4");
        String two = "8/8/8/4k3/8/8/8/K7 w - - 0 1";
        String rook = "8/8/8/8/8/2k5/7R/2K5 w - - 0 1";
        Hall.due("more than 30 moves with three men", 1, Hall.with(QUEEN).legalMany() > 30 ? 1 : 0);
        for (String text : new String[] {two, rook, QUEEN, MATE, STALEMATE}) {
            for (int depth = 0; depth <= 4; depth++) {
                int d = depth;
                Oracle x = Oracle.read(text).game.get(0);
                // The slow oracle looks far ahead only where few moves are.
                if (d < 3 || x.list().size() < 20) {
                    value(text, d, x.value(d));
                    Hall.answers("best " + d + " of " + text, at(text), x.best(d), h -> h.bestAt(d));
                }
            }
            for (int depth : new int[] {-1, 5, 6, LEAST, MOST}) {
                Hall.refuses("value " + depth + " of " + text, at(text), ARGUMENT, h -> h.valueAt(depth));
                Hall.refuses("best " + depth + " of " + text, at(text), ARGUMENT, h -> h.bestAt(depth));
            }
        }
        value(QUEEN, 3, 9);
        value(QUEEN, 4, 9);
        // Four men: 3 for few moves, 4 never; but when one is taken, 4 is open again.
        String four = "8/8/8/8/8/k7/1p5R/1K6 w - - 0 1";
        value(four, 3, Oracle.read(four).game.get(0).value(3));
        Hall.refuses("value 4 of four men", at(four), ARGUMENT, h -> h.valueAt(4));
        Hall.refuses("best 4 of four men", at(four), ARGUMENT, h -> h.bestAt(4));
        String taken = four + " Rxb2 Ka4";
        Oracle.Reading read = Oracle.read(taken);
        value(taken, 4, read.game.get(read.game.size() - 1).value(4));
    }

    private static void best(String text, int depth, String move) {
        GameHall hall = Hall.with(text);
        int due = Hall.place(hall, move);
        Hall.due("there is " + move, 1, due >= 0 ? 1 : 0);
        Hall.answers("best " + depth + " of " + text, at(text), due, h -> h.bestAt(depth));
    }

    private static void bestIsTheFirst() {
        Hall.about("The BEST move is the first one in the LIST with the greatest");
        // All moves are worth the same: the first one.
        best(Hall.START, 1, "Na3");
        best(Hall.START, 2, "Na3");
        best("8/8/8/4k3/8/8/8/K7 w - - 0 1", 4, "Kb1");
        // Two takings of the same worth: the one that is first in the list.
        best("k7/8/8/8/n2Q3n/8/8/K7 w - - 0 1", 1, "Qxa4+");
        best("6k1/8/8/8/b2Q3n/8/8/K7 w - - 0 1", 1, "Qxa4");
        best("k7/8/8/8/b2Q3r/8/8/K7 w - - 0 1", 1, "Qxh4");
        // Two mates in one: the first in the list; a mate goes before a queen.
        best("k7/8/1K6/8/8/8/8/5R1R w - - 0 1", 1, "Rf8#");
        best("k6q/8/1K6/8/8/8/8/5R1R w - - 0 1", 1, "Rxh8#");
        best("k5q1/8/1K6/8/8/8/8/5RR1 w - - 0 1", 1, "Rxg8#");
        // Mate at once is better than a longer one, and the longest way is best for the other side.
        best("k7/8/1K6/8/8/8/8/7R w - - 0 1", 4, "Rh8#");
        best("7k/5K2/8/8/8/8/8/6R1 b - - 0 1", 4, "Kh7");
    }

    private static void bestOfNone() {
        Hall.about("Promise 13: The place of the BEST move in the LIST; NONE if it is empty, or depth is 0");
        for (int depth = 0; depth <= 4; depth++) {
            int d = depth;
            Hall.answers("best " + d + " of mate", at(MATE), -1, h -> h.bestAt(d));
            Hall.answers("best " + d + " of stalemate", at(STALEMATE), -1, h -> h.bestAt(d));
        }
        for (String text : new String[] {Hall.START, QUEEN, THIRTY, THIRTY_ONE}) {
            Hall.answers("best 0 of " + text, at(text), -1, h -> h.bestAt(0));
            Hall.answers("best 1 of " + text, at(text), Oracle.read(text).game.get(0).best(1), h -> h.bestAt(1));
        }
    }

    private static void bestDepth() {
        Hall.about("Promise 13: Throws as valueAt()");
        for (String text : new String[] {Hall.START, THIRTY, THIRTY_ONE, MATE, QUEEN}) {
            for (int depth = -2; depth <= 6; depth++) {
                int d = depth;
                GameHall hall = Hall.with(text);
                String value = Hall.answer(() -> hall.valueAt(d));
                if (value.startsWith("Ill")) {
                    Hall.refuses("best " + d + " of " + text, at(text), ARGUMENT, h -> h.bestAt(d));
                } else {
                    Hall.due("best " + d + " of " + text, 1, hall.bestAt(d) < hall.legalMany() ? 1 : 0);
                }
            }
        }
    }

    /** With the sides changed the distance is the same; the list is in another order then. */
    private static void mate(String text, int distance, int place) {
        Hall.answers("distance of " + text, at(text), distance, GameHall::distanceToMate);
        Hall.answers("mating move of " + text, at(text), place, GameHall::matingMove);
        Oracle other = Oracle.read(Hall.mirrored(text)).game.get(0);
        Hall.due("distance of " + other.record(), distance, Hall.with(other.record()).distanceToMate());
        Hall.due("mating move of " + other.record(), MateTest.matingPlace(other), Hall.with(other.record()).matingMove());
    }

    private static void distanceOfMate() {
        Hall.about("mate has 0");
        mate(MATE, 0, -1);
        mate("8/8/8/8/8/6k1/6q1/7K w - - 0 1", 0, -1);
        mate("8/8/8/8/8/5K2/8/5k1R b - - 0 1", 0, -1);
        // A check that is no mate, and a mate with more men.
        mate("7k/6Q1/4K3/8/8/8/8/8 b - - 0 1", -1, -1);
        mate("7k/6Q1/6K1/8/8/8/p7/8 b - - 0 1", -1, -1);
        mate("7k/6Q1/6K1/8/8/8/P7/8 b - - 0 1", -1, -1);
    }

    private static void distanceOfOneMan() {
        Hall.about("with two kings and one man besides");
        mate("8/8/8/8/8/2k5/8/2K5 w - - 0 1", -1, -1);
        mate("8/8/8/8/8/2k5/7R/2K5 w - - 0 1", 23, 6);
        mate("8/8/8/8/8/2k5/6RR/2K5 w - - 0 1", -1, -1);
        mate("8/8/8/8/8/2k5/6rR/2K5 w - - 0 1", -1, -1);
        mate("8/8/8/8/8/2k5/6PR/2K5 w - - 0 1", -1, -1);
        mate(Hall.START, -1, -1);
        // When the second man is taken there is one again.
        GameHall hall = Hall.with("8/8/8/8/8/2k5/5p1R/2K5 w - - 0 1");
        Hall.due("before", -1, hall.distanceToMate());
        Hall.play(hall, "Rxf2");
        Hall.due("behind", MateTest.distance(Oracle.read("8/8/8/8/8/2k5/5R2/2K5 b - - 0 1").game.get(0)), hall.distanceToMate());
        hall.retreat();
        Hall.due("back", -1, hall.distanceToMate());
    }

    private static void distanceWithoutRights() {
        Hall.about("without RIGHTS");
        String[] rights = {"4k3/8/8/8/8/8/8/4K2R w K - 0 1", "4k3/8/8/8/8/8/8/R3K3 w Q - 0 1", "4k2r/8/8/8/8/8/8/4K3 b k - 0 1",
            "r3k3/8/8/8/8/8/8/4K3 b q - 0 1", "4k3/8/8/8/8/8/8/4K2R b K - 0 1"};
        for (String text : rights) {
            mate(text, -1, -1);
            String without = text.replaceAll(" [KQkq] ", " - ");
            Oracle x = Oracle.read(without).game.get(0);
            mate(without, MateTest.distance(x), MateTest.matingPlace(x));
            Hall.due("there is one", 1, MateTest.distance(x) > 0 ? 1 : 0);
        }
        // The right goes with the rook's move, and with castling.
        Hall.due("behind Rg1", 1, Hall.with(rights[0] + " Rg1").distanceToMate() > 0 ? 1 : 0);
        Hall.due("behind 0-0", 1, Hall.with(rights[0] + " 0-0").distanceToMate() > 0 ? 1 : 0);
    }

    private static void distanceWithPassant() {
        Hall.about("(a PASSANT plays no part)");
        for (String text : new String[] {"7k/8/8/8/P7/8/8/K7 b - a3 0 1", "8/8/8/8/4P3/2k5/8/4K3 b - e3 0 1",
            "4k3/8/8/p7/8/8/8/4K3 w - a6 0 1", "4k3/8/2K5/p7/8/8/8/8 w - a6 0 1"}) {
            GameHall without = Hall.with(text.replaceAll(" [a-h][36] ", " - "));
            mate(text, without.distanceToMate(), without.matingMove());
        }
        Hall.due("there is one", 1, Hall.with("7k/8/8/8/P7/8/8/K7 b - a3 0 1").distanceToMate() > 0 ? 1 : 0);
    }

    private static void distanceOfTheKingAlone() {
        Hall.about("with the side that has the king alone to move, not mate: it has a DISTANCE if it has a LEGAL move and all of"
                + " them lead to positions that have one: 1 more than the greatest of these");
        // One move, and then mate; two ways, the longer one counts.
        mate("7k/5K2/8/8/8/8/8/6R1 b - - 0 1", 2, 0);
        mate("7k/8/5K2/8/8/8/8/R7 b - - 0 1", longest("7k/8/5K2/8/8/8/8/R7 b - - 0 1"),
                MateTest.matingPlace(Oracle.read("7k/8/5K2/8/8/8/8/R7 b - - 0 1").game.get(0)));
        mate("8/8/8/8/8/2k5/8/K2R4 b - - 0 1", longest("8/8/8/8/8/2k5/8/K2R4 b - - 0 1"),
                MateTest.matingPlace(Oracle.read("8/8/8/8/8/2k5/8/K2R4 b - - 0 1").game.get(0)));
        // No legal move: stalemate has none. The man can be taken: none.
        mate(STALEMATE, -1, -1);
        mate("8/8/8/8/8/8/1k6/R5K1 b - - 0 1", -1, -1);
        mate("8/8/8/8/8/8/k7/R1K5 b - - 0 1", -1, -1);
        // The man stands beside the king, but is protected.
        String guarded = "8/8/8/8/8/k7/1R6/K7 b - - 0 1";
        mate(guarded, longest(guarded), MateTest.matingPlace(Oracle.read(guarded).game.get(0)));
        Hall.due("there is one", 1, Hall.with(guarded).distanceToMate() > 0 ? 1 : 0);
        mate("k7/8/2K5/8/8/8/8/1Q6 b - - 0 1", 2, 0);
    }

    /** The greatest distance that a move leads to, and one more. */
    private static int longest(String text) {
        GameHall hall = Hall.with(text);
        int longest = -1;
        for (int i = 0; i < hall.legalMany(); i++) {
            hall.proceed(i);
            longest = Math.max(longest, hall.distanceToMate());
            hall.retreat();
        }
        return longest + 1;
    }

    private static void distanceOfTheOther() {
        Hall.about("with the other side to move: if one leads to a position that has one: 1 more than the least");
        mate("k7/8/1K6/8/8/8/8/7R w - - 0 1", 1, 13);
        mate("7k/8/5K2/8/8/8/8/6R1 w - - 0 1", 3, Hall.place(Hall.with("7k/8/5K2/8/8/8/8/6R1 w - - 0 1"), "Kf7"));
        mate("4k3/8/8/8/8/8/4P3/4K3 w - - 0 1", 43, 2);
        mate("4k3/4p3/8/8/8/8/8/4K3 b - - 0 1", 43, 2);
        // A queen at once would be stalemate: the rook is the way.
        mate("8/1P6/k7/8/1K6/8/8/8 w - - 0 1", 13, 8);
        mate("8/6P1/8/8/8/8/2K5/k7 w - - 0 1", 3, 8);
        // Both sides may be the strong one.
        mate("8/8/8/8/8/1k6/7r/K7 b - - 0 1", 1, Hall.place(Hall.with("8/8/8/8/8/1k6/7r/K7 b - - 0 1"), "Rh1#"));
    }

    /** The longest ways that are known of these endings: 10, 16 and 28 moves of the strong side. */
    private static void distanceOfTheLongestWays() {
        Hall.about("(What has one at all is what is so by finitely many such steps.)");
        String[] texts = {"8/8/8/5k2/8/8/1Q6/K7 w - - 0 1", "8/8/8/8/4k3/8/1Q6/K7 b - - 0 1", "8/8/8/8/8/2k5/1R6/K7 w - - 0 1",
            "8/8/8/8/8/8/1Rk5/K7 b - - 0 1", "8/8/8/1k6/8/8/K5P1/8 w - - 0 1", "8/8/8/k7/8/K7/6P1/8 b - - 0 1"};
        int[] due = {19, 20, 31, 32, 55, 56};
        for (int k = 0; k < texts.length; k++) {
            mate(texts[k], due[k], MateTest.matingPlace(Oracle.read(texts[k]).game.get(0)));
        }
    }

    private static void distanceOfNone() {
        Hall.about("All other positions have none. (What has one at all is what is so by finitely many such steps.)"
                + " ... NONE if it has none");
        for (String man : new String[] {"B", "N", "b", "n"}) {
            for (String side : new String[] {"w", "b"}) {
                mate("8/8/8/8/8/2k5/8/K6" + man + " " + side + " - - 0 1", -1, -1);
                mate("k7/8/1K6/8/8/8/8/7" + man + " " + (man.equals("B") ? "b" : side) + " - - 0 1", -1, -1);
            }
        }
        // A pawn of the edge whose corner is held, and one that is lost, have none; a step aside it wins.
        mate("k7/8/8/8/8/8/P7/K7 w - - 0 1", -1, -1);
        mate("8/8/8/8/8/k7/p7/K7 w - - 0 1", -1, -1);
        mate("8/8/8/8/8/8/2kP4/7K b - - 0 1", -1, -1);
        mate("4k3/8/4K3/4P3/8/8/8/8 b - - 0 1", MateTest.distance(Oracle.read("4k3/8/4K3/4P3/8/8/8/8 b - - 0 1").game.get(0)), 0);
        mate("4k3/4P3/4K3/8/8/8/8/8 b - - 0 1", -1, -1);
        mate("4k3/8/4P3/4K3/8/8/8/8 w - - 0 1", -1, -1);
    }

    private static void distancesInTurn() {
        Hall.about("All other positions have none.");
        String[] men = {"N", "B", "P", "R", "Q", "P", "B", "N", "R", "Q", "N", "B"};
        GameHall hall = new GameHall(1);
        for (String man : men) {
            for (String side : new String[] {"w", "b"}) {
                String record = "4k3/8/8/8/8/8/3" + man + "4/4K3 " + side + " - - 0 1";
                Oracle x = Oracle.read(record).game.get(0);
                Hall.submit(hall, record);
                Hall.due("distance of " + record, MateTest.distance(x), hall.distanceToMate());
                Hall.due("mating move of " + record, MateTest.matingPlace(x), hall.matingMove());
            }
        }
    }

    private static void matingMove() {
        Hall.about("The MATING move of a position with a DISTANCE above 0: the first one in the LIST that leads to a DISTANCE of 1 less");
        String[] texts = {"4k3/8/8/8/8/8/4P3/4K3 w - - 0 1", "8/8/8/8/8/2k5/7R/2K5 w - - 0 1", "7k/8/8/8/8/8/q7/7K w - - 0 1"};
        for (String text : texts) {
            GameHall hall = Hall.with(text);
            for (int left = hall.distanceToMate(); left > 0; left--) {
                Hall.due("distance", left, hall.distanceToMate());
                int place = hall.matingMove();
                for (int i = 0; i <= place; i++) {
                    hall.proceed(i);
                    Hall.due("move " + i + " leads there", i == place ? 1 : 0, hall.distanceToMate() == left - 1 ? 1 : 0);
                    hall.retreat();
                }
                hall = Hall.with(next(hall, place));
            }
            Hall.due("mate in the end of " + text, 1, hall.status(4));
        }
    }

    /** The record behind a move, so that a new object goes on from there. */
    private static String next(GameHall hall, int place) {
        hall.proceed(place);
        return Hall.record(hall);
    }

    private static void matingMoveOfNone() {
        Hall.about("Promise 15: The place of the MATING move in the LIST; NONE if there is none");
        for (String text : new String[] {MATE, STALEMATE, Hall.START, "8/8/8/8/8/2k5/8/2K5 w - - 0 1", "8/8/8/8/8/2k5/7B/2K5 w - - 0 1",
            "8/8/8/8/8/8/1k6/R5K1 b - - 0 1", "4k3/8/8/8/8/8/8/4K2R w K - 0 1"}) {
            Hall.answers("mating move of " + text, at(text), -1, GameHall::matingMove);
        }
        Hall.answers("a mating move", at("k7/8/1K6/8/8/8/8/7R w - - 0 1"), 13, GameHall::matingMove);
    }
}
