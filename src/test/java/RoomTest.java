import java.lang.management.ManagementFactory;

/** What a run makes stays far below the room: rows are made once and used again. */
public final class RoomTest {
    /** The room's 7.3 million fields and elements would take more than this by far. */
    private static final long MOST_BYTES = 2_500_000;
    private static final com.sun.management.ThreadMXBean THREADS =
            (com.sun.management.ThreadMXBean) ManagementFactory.getThreadMXBean();

    private RoomTest() {
    }

    private static long bytes() {
        return THREADS.getCurrentThreadAllocatedBytes();
    }

    public static void main(String[] args) {
        newObject();
        wholeRun();
        Hall.end("RoomTest");
    }

    private static void newObject() {
        // The first one loads the classes, which does not count.
        Hall.due("a new object", 0, new GameHall(1).status(0));
        long before = bytes();
        GameHall hall = new GameHall(1);
        long made = bytes() - before;
        Hall.due("a new object is small (" + made + ")", 1, made < 150_000 && hall.status(0) == 0 ? 1 : 0);
    }

    private static int[][] words(String text) {
        int[][] words = new int[(text.length() + 19) / 20][5];
        for (int k = 0; k < 20 * words.length; k++) {
            int sign = k < text.length() ? text.charAt(k) : 0;
            words[k / 20][k % 20 / 4] = words[k / 20][k % 20 / 4] << 8 | sign;
        }
        return words;
    }

    private static void submit(GameHall hall, int[][] words, int n) {
        for (int[] word : words) {
            hall.tape(word[0], word[1], word[2], word[3], word[4]);
        }
        hall.submit(n);
    }

    private static void wholeRun() {
        String[] texts = {Hall.longText(600), "4k3/8/8/8/8/8/4P3/4K3 w - - 0 1",
            "r3k2r/p1ppqpb1/bn2pnp1/3PN3/1p2P3/2N2Q1p/PPPBBPPP/R3K2R w KQkq - 0 1"};
        int[][][] words = {words(texts[0]), words(texts[1]), words(texts[2])};
        GameHall hall = new GameHall(1);
        long before = bytes();
        round(hall, texts, words);
        long first = bytes() - before;
        Hall.due("all calls once (" + first + ")", 1, first < MOST_BYTES ? 1 : 0);
        before = bytes();
        round(hall, texts, words);
        long again = bytes() - before;
        // Asking how much was made makes something itself.
        Hall.due("all calls again (" + again + ")", 1, again < 1_000 ? 1 : 0);
    }

    private static void round(GameHall hall, String[] texts, int[][][] words) {
        for (int k = 0; k < texts.length; k++) {
            submit(hall, words[k], texts[k].length() % 20 == 0 ? 20 : texts[k].length() % 20);
            for (int i = 0; i < hall.legalMany(); i++) {
                hall.legalMove(i);
                hall.spelling(i);
            }
            for (int which = -1; which < 15; which++) {
                hall.status(which);
                hall.recordAt(which);
                hall.manOn(which);
            }
            hall.historyOf(0, 4);
            hall.linesTo(2);
            hall.valueAt(2);
            hall.bestAt(2);
            hall.distanceToMate();
            hall.matingMove();
            hall.retreat();
            hall.proceed(0);
        }
    }
}
