import java.lang.management.ManagementFactory;

/** What a run makes stays far below the room: rows are made once and used again. */
public final class RoomTest {
    /** The room's 7.3 million fields and elements take no less than four bytes each. */
    private static final long MOST_BYTES = 7_300_000L * 4;
    private static final com.sun.management.ThreadMXBean THREADS =
            (com.sun.management.ThreadMXBean) ManagementFactory.getThreadMXBean();

    private RoomTest() {
    }

    private static long bytes() {
        return THREADS.getCurrentThreadAllocatedBytes();
    }

    public static void main(String[] args) {
        newObject();
        wholeRun();
        Hall.end("RoomTest");
    }

    private static void newObject() {
        // The first one loads the classes, which does not count.
        Hall.due("a new object", 0, new GameHall(1).status(0));
        long before = bytes();
        GameHall hall = new GameHall(1);
        long made = bytes() - before;
        Hall.due("a new object (" + made + " bytes)", 1, made < MOST_BYTES && hall.status(0) == 0 ? 1 : 0);
    }

    private static int[][] words(String text) {
        int[][] words = new int[(text.length() + 19) / 20][5];
        for (int k = 0; k < 20 * words.length; k++) {
            int sign = k < text.length() ? text.charAt(k) : 0;
            words[k / 20][k % 20 / 4] = words[k / 20][k % 20 / 4] << 8 | sign;
        }
        return words;
    }

    private static void submit(GameHall hall, int[][] words, int n) {
        for (int[] word : words) {
            hall.tape(word[0], word[1], word[2], word[3], word[4]);
        }
        hall.submit(n);
    }

    /** All calls that an object may be asked, the dear ones among them again and again. */
    private static void wholeRun() {
        String[] texts = {Hall.longText(600), "4k3/8/8/8/8/8/4P3/4K3 w - - 0 1",
            "r3k2r/p1ppqpb1/bn2pnp1/3PN3/1p2P3/2N2Q1p/PPPBBPPP/R3K2R w KQkq - 0 1"};
        int[][][] words = {words(texts[0]), words(texts[1]), words(texts[2])};
        long before = bytes();
        GameHall hall = new GameHall(1);
        int calls = 0;
        for (int k = 0; k < texts.length; k++) {
            submit(hall, words[k], texts[k].length() % 20 == 0 ? 20 : texts[k].length() % 20);
            calls += words[k].length + 1 + ask(hall);
        }
        while (calls < 480) {
            calls += ask(hall);
        }
        long made = bytes() - before;
        Hall.due("a run of " + calls + " calls (" + made + " bytes)", 1, made < MOST_BYTES && calls <= 512 ? 1 : 0);
    }

    /** Answers how many calls it has made. */
    private static int ask(GameHall hall) {
        hall.spelling(0);
        hall.legalMove(0);
        hall.recordAt(0);
        hall.manOn(0);
        hall.historyOf(0, 4);
        hall.status(11);
        hall.linesTo(2);
        hall.valueAt(2);
        hall.bestAt(2);
        hall.distanceToMate();
        hall.matingMove();
        hall.retreat();
        hall.proceed(0);
        return 13;
    }
}
