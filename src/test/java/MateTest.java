import java.util.Arrays;
import java.util.List;
import java.util.Random;

/**
 * Promises 14 and 15 against tables that are made here by the document's own steps, position by
 * position. Some positions by chance (always the same ones), or with the argument 'all' every one.
 */
public final class MateTest {
    private static final int[] KINDS = {5, 4, 3, 2, 1};
    /** By kind of man, then the side to move (0 the strong one), king, man and weak king. */
    private static final short[][] DISTANCE = new short[6][];

    private MateTest() {
    }

    public static void main(String[] args) {
        boolean all = args.length > 0 && args[0].equals("all");
        Random random = new Random(7);
        GameHall hall = null;
        for (int kind : KINDS) {
            table(kind);
            int asked = 0;
            for (int at = 0; at < 2 * 64 * 64 * 64; at++) {
                if (!stands(kind, at) || !all && random.nextInt(40) > 0 && !barred(kind, at)) {
                    continue;
                }
                if (asked % 90 == 0) {
                    hall = new GameHall(asked);
                }
                asked++;
                compare(hall, kind, at, random.nextInt(2));
            }
        }
        Hall.due("the longest way with a queen", 20, longest(5));
        Hall.due("the longest way with a rook", 32, longest(4));
        Hall.due("the longest way with a pawn", 56, longest(1));
        Hall.due("the longest way with a bishop", -1, longest(3));
        Hall.due("the longest way with a knight", -1, longest(2));
        Hall.end("MateTest");
    }

    /** A pawn on its second rank with a king one or two ranks ahead of it: these are all looked at. */
    private static boolean barred(int kind, int at) {
        int weak = at % 64;
        int man = at / 64 % 64;
        int king = at / 4096 % 64;
        boolean near = king == man + 8 || weak == man + 8;
        boolean far = king == man + 16 || weak == man + 16;
        return kind == 1 && man / 8 == 1 && (near || far);
    }

    /** Solved when it is first asked; a pawn becomes the others. */
    private static short[] table(int kind) {
        if (DISTANCE[kind] == null) {
            for (int become = 2; become <= 5 && kind == 1; become++) {
                table(become);
            }
            DISTANCE[kind] = solve(kind);
        }
        return DISTANCE[kind];
    }

    private static int longest(int kind) {
        int longest = -1;
        for (short d : table(kind)) {
            longest = Math.max(longest, d);
        }
        return longest;
    }

    private static int at(int weakMoves, int king, int man, int weak) {
        return ((weakMoves * 64 + king) * 64 + man) * 64 + weak;
    }

    private static boolean beside(int a, int b) {
        return a != b && Math.abs(a % 8 - b % 8) <= 1 && Math.abs(a / 8 - b / 8) <= 1;
    }

    private static int line(int a, int b) {
        int df = b % 8 - a % 8;
        int dr = b / 8 - a / 8;
        boolean straight = (df == 0) != (dr == 0);
        boolean askew = df != 0 && Math.abs(df) == Math.abs(dr);
        return straight ? 1 : askew ? 2 : 0;
    }

    /** Whether the man on a attacks b, when only the king may stand between. */
    private static boolean strikes(int kind, int a, int b, int king) {
        int df = b % 8 - a % 8;
        int dr = b / 8 - a / 8;
        if (kind == 1) {
            return dr == 1 && Math.abs(df) == 1;
        }
        if (kind == 2) {
            return df * df + dr * dr == 5;
        }
        int line = line(a, b);
        if (line == 0 || kind == 3 && line == 1 || kind == 4 && line == 2) {
            return false;
        }
        int step = Integer.signum(df) + 8 * Integer.signum(dr);
        for (int s = a + step; s != b; s += step) {
            if (s == king) {
                return false;
            }
        }
        return true;
    }

    private static boolean stands(int kind, int at) {
        int weak = at % 64;
        int man = at / 64 % 64;
        int king = at / 4096 % 64;
        boolean weakMoves = at / 262144 == 1;
        if (weak == man || weak == king || man == king || beside(weak, king)) {
            return false;
        }
        if (kind == 1 && (man < 8 || man > 55)) {
            return false;
        }
        return weakMoves || !strikes(kind, man, weak, king);
    }

    private static short[] solve(int kind) {
        short[] known = new short[2 * 64 * 64 * 64];
        Arrays.fill(known, (short) -1);
        boolean grows = true;
        // Each level rests on the one before, but a pawn's on those of a queen and a rook as well.
        for (int d = 0; d <= 70 && (grows || kind == 1); d++) {
            int weakMoves = d % 2 == 0 ? 1 : 0;
            grows = false;
            for (int at = weakMoves * 262144; at < (weakMoves + 1) * 262144; at++) {
                if (known[at] < 0 && stands(kind, at)) {
                    boolean now = weakMoves == 1 ? lost(kind, at, d, known) : won(kind, at, d, known);
                    known[at] = (short) (now ? d : -1);
                    grows |= now;
                }
            }
        }
        return known;
    }

    /** Whether the weak side is mated (d 0), or every move leads to a distance, d - 1 at the most. */
    private static boolean lost(int kind, int at, int d, short[] known) {
        int weak = at % 64;
        int man = at / 64 % 64;
        int king = at / 4096 % 64;
        boolean moves = false;
        for (int to = 0; to < 64; to++) {
            boolean free = beside(weak, to) && to != king && !beside(to, king);
            if (!free || to != man && strikes(kind, man, to, king)) {
                continue;
            }
            moves = true;
            int next = to == man ? -1 : known[at(0, king, man, to)];
            if (next < 0 || next > d - 1) {
                return false;
            }
        }
        return moves ? d > 0 : d == 0 && strikes(kind, man, weak, king);
    }

    private static boolean won(int kind, int at, int d, short[] known) {
        int weak = at % 64;
        int man = at / 64 % 64;
        int king = at / 4096 % 64;
        for (int to = 0; to < 64; to++) {
            boolean free = to != king && to != man && to != weak;
            if (free && beside(king, to) && !beside(to, weak) && known[at(1, to, man, weak)] == d - 1) {
                return true;
            }
            if (free && kind != 1 && strikes(kind, man, to, king) && clearOf(man, to, weak)
                    && known[at(1, king, to, weak)] == d - 1) {
                return true;
            }
        }
        return kind == 1 && pawnWins(king, man, weak, d, known);
    }

    private static boolean clearOf(int a, int b, int weak) {
        boolean between = line(a, weak) != 0 && line(a, weak) == line(a, b) && line(weak, b) == line(a, b)
                && Math.min(a, b) < weak && weak < Math.max(a, b);
        return !between;
    }

    private static boolean pawnWins(int king, int man, int weak, int d, short[] known) {
        int one = man + 8;
        if (one == king || one == weak) {
            return false;
        }
        if (one > 55) {
            for (int become = 2; become <= 5; become++) {
                if (DISTANCE[become][at(1, king, one, weak)] == d - 1) {
                    return true;
                }
            }
            return false;
        }
        int two = man + 16;
        return known[at(1, king, one, weak)] == d - 1
                || man < 16 && two != king && two != weak && known[at(1, king, two, weak)] == d - 1;
    }

    private static Oracle position(int kind, int at, int strong) {
        int turn = 56 * strong;
        Oracle x = new Oracle();
        x.men[at / 4096 % 64 ^ turn] = 6 + 6 * strong;
        x.men[at / 64 % 64 ^ turn] = kind + 6 * strong;
        x.men[at % 64 ^ turn] = 12 - 6 * strong;
        x.side = at / 262144 == 0 ? strong : 1 - strong;
        x.number = 1;
        return x;
    }

    /** The DISTANCE of any position, -1 if it has none. */
    static int distance(Oracle x) {
        int man = -1;
        int men = 0;
        for (int s = 0; s < 64; s++) {
            men += x.men[s] == 0 ? 0 : 1;
            man = Oracle.kind(x.men[s]) != 6 && x.men[s] != 0 ? s : man;
        }
        if (men != 3 || x.rights != 0) {
            return -1;
        }
        int strong = Oracle.owner(x.men[man]);
        int turn = 56 * strong;
        int weakMoves = x.side == strong ? 0 : 1;
        int at = at(weakMoves, x.king(strong) ^ turn, man ^ turn, x.king(1 - strong) ^ turn);
        return table(Oracle.kind(x.men[man]))[at];
    }

    /** The place of the MATING move, -1 if there is none. */
    static int matingPlace(Oracle x) {
        int distance = distance(x);
        List<Integer> list = x.list();
        for (int i = 0; i < list.size() && distance > 0; i++) {
            if (distance(x.after(list.get(i))) == distance - 1) {
                return i;
            }
        }
        return -1;
    }

    private static void compare(GameHall hall, int kind, int at, int strong) {
        Oracle x = position(kind, at, strong);
        String record = x.record();
        int due = table(kind)[at];
        Hall.submit(hall, record);
        Hall.due(record + ": distanceToMate", due, hall.distanceToMate());
        Hall.due(record + ": matingMove", matingPlace(x), hall.matingMove());
    }
}
