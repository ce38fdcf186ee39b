import java.nio.charset.StandardCharsets;

/** The use of the class that README.md shows, piece by piece; ReadmeTest holds the two together. */
public final class Example {
    private Example() {
    }

    public static void main(String[] args) {
        GameHall hall = new GameHall(4);
        askGame(hall);
        goOn(hall);
        meetRefusals(hall);
        lookAhead(hall);
    }

    /** Brings a text to the tape and submits it. */
    static int submit(GameHall hall, String text) {
        byte[] bytes = text.getBytes(StandardCharsets.ISO_8859_1);
        for (int at = 0; at < bytes.length; at += 20) {
            int[] ints = new int[5];
            for (int k = 0; k < 20 && at + k < bytes.length; k++) {
                ints[k / 4] |= (bytes[at + k] & 255) << 24 - 8 * (k % 4);
            }
            if (!hall.tape(ints[0], ints[1], ints[2], ints[3], ints[4])) {
                throw new IllegalStateException("the tape is full");
            }
        }
        int inLastPortion = bytes.length % 20;
        return hall.submit(inLastPortion == 0 ? 20 : inLastPortion);
    }

    /** The characters of a long, the first one highest. */
    static String characters(long word) {
        StringBuilder out = new StringBuilder();
        for (int shift = 56; shift >= 0 && (word >>> shift & 255) != 0; shift -= 8) {
            out.append((char) (word >>> shift & 255));
        }
        return out.toString();
    }

    /** The record of the position that the game stands at. */
    static String record(GameHall hall) {
        StringBuilder out = new StringBuilder();
        for (int k = 0; hall.recordAt(k) != 0; k++) {
            out.append(characters(hall.recordAt(k)));
        }
        return out.toString();
    }

    private static void askGame(GameHall hall) {
        int moves = submit(hall, "rnbqkbnr/pppppppp/8/8/8/8/PPPPPPPP/RNBQKBNR w KQkq - 0 1 f3 e5 g4");
        System.out.println(moves + " moves, " + hall.status(3) + " positions");
        System.out.println(record(hall));
        System.out.println("black is to move: " + (hall.status(5) == 1));
        System.out.println("on e5 stands man " + hall.manOn(36));
        System.out.println(hall.legalMany() + " legal moves");
    }

    private static void goOn(GameHall hall) {
        int place = place(hall, "Qh4#");
        int move = hall.legalMove(place);
        System.out.println("from " + (move & 63) + " to " + (move >> 6 & 63) + ", becomes " + (move >> 12));
        System.out.println("verdict " + hall.proceed(place));
        System.out.println("taken back: " + hall.retreat() + ", verdict " + hall.status(4));
    }

    /** The place of a move in the list; NONE if none is spelled so. */
    static int place(GameHall hall, String spelling) {
        for (int i = 0; i < hall.legalMany(); i++) {
            if (characters(hall.spelling(i)).equals(spelling)) {
                return i;
            }
        }
        return GameHall.NONE;
    }

    private static void meetRefusals(GameHall hall) {
        int answer = submit(hall, "4k3/8/8/8/8/8/8/R3K3 w Q - 0 1 Ra8");
        System.out.println("answer " + answer + ", fault " + hall.status(1) + ", move " + hall.status(2));
        answer = submit(hall, "4k3/8/8/8/8/8/8/4K2R w Q - 0 1 Rh8+");
        System.out.println("answer " + answer + ", fault " + hall.status(1) + ", move " + hall.status(2));
        System.out.println("the game has still " + hall.status(3) + " positions");
        try {
            hall.proceed(99);
        } catch (IndexOutOfBoundsException e) {
            System.out.println("no move 99; still " + hall.status(3) + " positions");
        }
    }

    private static void lookAhead(GameHall hall) {
        submit(hall, "8/8/8/8/8/2k5/7R/2K5 w - - 0 1");
        System.out.println(hall.linesTo(2) + " lines of two moves");
        System.out.println("worth " + hall.valueAt(2) + ", best " + characters(hall.spelling(hall.bestAt(2))));
        System.out.println("mate in " + hall.distanceToMate() + " half moves, by "
                + characters(hall.spelling(hall.matingMove())));
    }
}
