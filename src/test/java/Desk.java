/** Reads many short texts with one object after another, none of which is used for more than 512 calls. */
final class Desk {
    private static final int MOST_CALLS = 512;
    private static final int SPARE_CALLS = 12;
    private GameHall hall = new GameHall(0);
    private int calls = 0;

    /** The object that has read the text; a dozen more calls of it may come till the next text. */
    GameHall read(String text) {
        int needed = text.length() / 20 + 2 + SPARE_CALLS;
        if (calls + needed > MOST_CALLS) {
            hall = new GameHall(0);
            calls = 0;
        }
        calls += needed;
        Hall.submit(hall, text);
        return hall;
    }

    /** The fault of the text is the one that is due. */
    void due(String text, int fault) {
        GameHall read = read(text);
        Hall.due("fault of '" + text + "'", fault, read.status(1));
        Hall.due("faulty move of '" + text + "'", fault < 20 ? -1 : 0, read.status(2));
    }
}
