import java.util.ArrayList;
import java.util.List;

/** The face of the document once more, on top of the Oracle: what each call in a run has to answer. */
final class Model {
    private final StringBuilder tape = new StringBuilder();
    private final List<Oracle> row = new ArrayList<>();
    private final List<Integer> moves = new ArrayList<>();
    private int fault = 0;
    private int faultMove = -1;
    private int taken = 0;

    private Oracle last() {
        return row.get(row.size() - 1);
    }

    private int count(int i) {
        int count = 0;
        for (int k = 0; k <= i; k++) {
            count += row.get(k).key().equals(row.get(i).key()) ? 1 : 0;
        }
        return count;
    }

    private int verdict(int i) {
        return row.get(i).verdict(count(i));
    }

    boolean tape(int a, int b, int c, int d, int e) {
        if (tape.length() >= 8180) {
            return false;
        }
        for (int word : new int[] {a, b, c, d, e}) {
            for (int shift = 24; shift >= 0; shift -= 8) {
                tape.append((char) (word >>> shift & 255));
            }
        }
        return true;
    }

    int submit(int n) {
        if (n < 1 || n > 20) {
            throw new IllegalArgumentException();
        }
        String text = tape.length() == 0 ? "" : tape.substring(0, tape.length() - 20 + n);
        tape.setLength(0);
        Oracle.Reading reading = Oracle.read(text);
        fault = reading.fault;
        faultMove = reading.move;
        if (fault != 0) {
            return -1;
        }
        row.clear();
        row.addAll(reading.game);
        moves.clear();
        moves.addAll(reading.moves);
        taken++;
        return moves.size();
    }

    int proceed(int i) {
        int verdict = row.isEmpty() ? 1 : verdict(row.size() - 1);
        if (verdict >= 1 && verdict <= 5 || moves.size() >= 600) {
            throw new IllegalStateException();
        }
        int move = legalMove(i);
        row.add(last().after(move));
        moves.add(move);
        return verdict(row.size() - 1);
    }

    boolean retreat() {
        if (row.size() < 2) {
            return false;
        }
        row.remove(row.size() - 1);
        moves.remove(moves.size() - 1);
        return true;
    }

    int legalMany() {
        return row.isEmpty() ? 0 : last().list().size();
    }

    int legalMove(int i) {
        if (i < 0 || i >= legalMany()) {
            throw new IndexOutOfBoundsException();
        }
        return last().list().get(i);
    }

    private static long word(String text) {
        long word = 0;
        for (int k = 0; k < 8; k++) {
            word = word << 8 | (k < text.length() ? text.charAt(k) : 0);
        }
        return word;
    }

    long spelling(int i) {
        return word(last0().spell(legalMove(i)));
    }

    /** An empty board without a game, which no list is asked of. */
    private Oracle last0() {
        return row.isEmpty() ? new Oracle() : last();
    }

    String record() {
        return row.isEmpty() ? "" : last().record();
    }

    long recordAt(int k) {
        String record = record();
        return k < 0 || 8L * k >= record.length() ? 0 : word(record.substring(8 * k));
    }

    int manOn(int square) {
        return row.isEmpty() || square < 0 || square > 63 ? -1 : last().men[square];
    }

    private int men() {
        int men = 0;
        for (int man : last0().men) {
            men += man == 0 ? 0 : 1;
        }
        return men;
    }

    private void refuse(int depth, boolean fewMen) {
        needGame();
        boolean open = depth >= 0 && depth <= 2 || depth == 3 && legalMany() <= 30;
        if (!open && !(fewMen && men() <= 3 && depth >= 0 && depth <= 4)) {
            throw new IllegalArgumentException();
        }
    }

    private void needGame() {
        if (row.isEmpty()) {
            throw new IllegalStateException();
        }
    }

    long linesTo(int depth) {
        refuse(depth, false);
        return last().lines(depth);
    }

    int valueAt(int depth) {
        refuse(depth, true);
        return last().value(depth);
    }

    int bestAt(int depth) {
        refuse(depth, true);
        return last().best(depth);
    }

    int distanceToMate() {
        needGame();
        return MateTest.distance(last());
    }

    int matingMove() {
        needGame();
        return MateTest.matingPlace(last());
    }

    int historyOf(int i, int w) {
        if (i < 0 || i >= row.size() || w < 0 || w > 7) {
            throw new IndexOutOfBoundsException();
        }
        Oracle x = row.get(i);
        switch (w) {
            case 0: return count(i);
            case 1: return x.clock;
            case 2: return verdict(i);
            case 3: return i == 0 ? -1 : moves.get(i - 1);
            case 4: return x.list().size();
            case 5: return x.check() ? 1 : 0;
            case 6:
                for (int k = 0; k < i; k++) {
                    if (row.get(k).key().equals(x.key())) {
                        return k;
                    }
                }
                return i;
            default: return x.passing();
        }
    }

    int status(int which) {
        if (which == 11 || which == 12) {
            int different = 0;
            int greatest = 0;
            for (int i = 0; i < row.size(); i++) {
                different += count(i) == 1 ? 1 : 0;
                greatest = Math.max(greatest, count(i));
            }
            return which == 11 ? different : greatest;
        }
        switch (which) {
            case 0: return tape.length();
            case 1: return fault;
            case 2: return faultMove;
            case 3: return row.size();
            case 10: return row.isEmpty() ? 0 : men();
            case 13: return taken;
            default: break;
        }
        if (row.isEmpty()) {
            return -1;
        }
        switch (which) {
            case 4: return verdict(row.size() - 1);
            case 5: return last().side;
            case 6: return last().rights;
            case 7: return last().passant;
            case 8: return last().clock;
            case 9: return last().number;
            default: return -1;
        }
    }
}
