import java.util.ArrayList;
import java.util.List;
import java.util.regex.Matcher;
import java.util.regex.Pattern;

/**
 * The document's terms once more, word by word and without any regard to speed, to be held against
 * GameHall: moves are tried one by one by their definition, values looked up without pruning, texts
 * taken apart by regular expressions.
 */
final class Oracle {
    static final String LETTERS = ".PNBRQKpnbrqk";
    private static final Pattern MEN = Pattern.compile("[PNBRQKpnbrqk1-8]+(/[PNBRQKpnbrqk1-8]+){7}");
    private static final Pattern FORM = Pattern.compile(
            "(0-0|0-0-0|[KQRBN][a-h]?[1-8]?x?[a-h][1-8]|([a-h]x)?[a-h][1-8][QRBN]?)[+#]?");
    private static final int[] WORTH = {0, 1, 3, 3, 5, 9, 0};

    final int[] men = new int[64];
    int side;
    int rights;
    int passant = -1;
    int clock;
    int number;
    private List<Integer> knownList;
    private String knownKey;

    static Oracle copy(Oracle of) {
        Oracle x = new Oracle();
        System.arraycopy(of.men, 0, x.men, 0, 64);
        x.side = of.side;
        x.rights = of.rights;
        x.passant = of.passant;
        x.clock = of.clock;
        x.number = of.number;
        return x;
    }

    static int owner(int man) {
        return man == 0 ? -1 : man <= 6 ? 0 : 1;
    }

    static int kind(int man) {
        return man > 6 ? man - 6 : man;
    }

    int king(int of) {
        for (int s = 0; s < 64; s++) {
            if (men[s] == 6 + 6 * of) {
                return s;
            }
        }
        return -1;
    }

    /** Whether the man on a attacks the square b. */
    boolean attacks(int a, int b) {
        int df = b % 8 - a % 8;
        int dr = b / 8 - a / 8;
        int man = men[a];
        boolean straight = (df == 0) != (dr == 0);
        boolean askew = df != 0 && Math.abs(df) == Math.abs(dr);
        switch (kind(man)) {
            case 1: return Math.abs(df) == 1 && dr == (owner(man) == 0 ? 1 : -1);
            case 2: return df * df + dr * dr == 5;
            case 3: return askew && clear(a, b);
            case 4: return straight && clear(a, b);
            case 5: return (straight || askew) && clear(a, b);
            case 6: return a != b && Math.abs(df) <= 1 && Math.abs(dr) <= 1;
            default: return false;
        }
    }

    private boolean clear(int a, int b) {
        int step = Integer.signum(b % 8 - a % 8) + 8 * Integer.signum(b / 8 - a / 8);
        for (int s = a + step; s != b; s += step) {
            if (men[s] != 0) {
                return false;
            }
        }
        return true;
    }

    boolean attacked(int square, int by) {
        for (int s = 0; s < 64; s++) {
            if (owner(men[s]) == by && attacks(s, square)) {
                return true;
            }
        }
        return false;
    }

    boolean check() {
        return attacked(king(side), 1 - side);
    }

    boolean castles(int move) {
        return kind(men[move & 63]) == 6 && Math.abs((move >> 6 & 7) - (move & 7)) == 2;
    }

    boolean passes(int move) {
        return kind(men[move & 63]) == 1 && (move & 7) != (move >> 6 & 7) && men[move >> 6 & 63] == 0;
    }

    private boolean goes(int from, int to) {
        int man = men[from];
        int other = 1 - side;
        if (owner(man) != side || owner(men[to]) == side || kind(men[to]) == 6) {
            return false;
        }
        int df = to % 8 - from % 8;
        int dr = to / 8 - from / 8;
        if (kind(man) == 1) {
            int ahead = side == 0 ? 1 : -1;
            if (df == 0 && dr == ahead) {
                return men[to] == 0;
            }
            if (df == 0 && dr == 2 * ahead) {
                return from / 8 == (side == 0 ? 1 : 6) && men[to] == 0 && men[from + 8 * ahead] == 0;
            }
            if (Math.abs(df) != 1 || dr != ahead) {
                return false;
            }
            return men[to] != 0 || to % 8 == passant && to / 8 == (side == 0 ? 5 : 2)
                    && men[to - 8 * ahead] == 1 + 6 * other;
        }
        if (kind(man) == 6 && dr == 0 && Math.abs(df) == 2 && from == 4 + 56 * side) {
            int right = (df > 0 ? 1 : 2) << 2 * side;
            int corner = df > 0 ? from + 3 : from - 4;
            return (rights & right) != 0 && men[corner] == 4 + 6 * side && clear(from, corner)
                    && !attacked(from, other) && !attacked(from + df / 2, other);
        }
        return attacks(from, to);
    }

    /** A position never changes once it has been asked, so its list is kept. */
    List<Integer> list() {
        if (knownList == null) {
            knownList = findMoves();
        }
        return knownList;
    }

    private List<Integer> findMoves() {
        List<Integer> moves = new ArrayList<>();
        for (int from = 0; from < 64; from++) {
            for (int to = 0; to < 64 && owner(men[from]) == side; to++) {
                if (!goes(from, to)) {
                    continue;
                }
                boolean grows = kind(men[from]) == 1 && (to / 8 == 0 || to / 8 == 7);
                for (int become = grows ? 2 : 0; become <= (grows ? 5 : 0); become++) {
                    int move = from + 64 * to + 4096 * become;
                    Oracle next = after(move);
                    if (!next.attacked(next.king(side), 1 - side)) {
                        moves.add(move);
                    }
                }
            }
        }
        return moves;
    }

    Oracle after(int move) {
        int from = move & 63;
        int to = move >> 6 & 63;
        Oracle x = copy(this);
        int man = men[from];
        boolean pawn = kind(man) == 1;
        x.clock = pawn || men[to] != 0 ? 0 : clock + 1;
        if (passes(move)) {
            x.men[from / 8 * 8 + to % 8] = 0;
        }
        if (castles(move)) {
            x.men[to > from ? from + 3 : from - 4] = 0;
            x.men[(from + to) / 2] = 4 + 6 * side;
        }
        x.men[from] = 0;
        x.men[to] = move >> 12 == 0 ? man : (move >> 12) + 6 * side;
        if (kind(man) == 6) {
            x.rights &= side == 0 ? 12 : 3;
        }
        int[] corners = {7, 0, 63, 56};
        for (int k = 0; k < 4; k++) {
            if (from == corners[k] || to == corners[k]) {
                x.rights &= ~(1 << k);
            }
        }
        x.passant = -1;
        if (pawn && Math.abs(to - from) == 16) {
            int enemy = 7 - 6 * side;
            if (to % 8 > 0 && men[to - 1] == enemy || to % 8 < 7 && men[to + 1] == enemy) {
                x.passant = to % 8;
            }
        }
        x.number = number + side;
        x.side = 1 - side;
        return x;
    }

    int passing() {
        for (int move : list()) {
            if (passes(move)) {
                return move >> 6 & 7;
            }
        }
        return -1;
    }

    String key() {
        if (knownKey == null) {
            knownKey = java.util.Arrays.toString(men) + side + " " + rights + " " + passing();
        }
        return knownKey;
    }

    static String name(int square) {
        return "" + (char) ('a' + square % 8) + (char) ('1' + square / 8);
    }

    String body(int move) {
        int from = move & 63;
        int to = move >> 6 & 63;
        if (castles(move)) {
            return to > from ? "0-0" : "0-0-0";
        }
        String become = move >> 12 == 0 ? "" : LETTERS.substring(move >> 12, (move >> 12) + 1);
        if (kind(men[from]) == 1) {
            return (from % 8 == to % 8 ? "" : name(from).charAt(0) + "x") + name(to) + become;
        }
        List<Integer> rivals = new ArrayList<>();
        for (int other : list()) {
            if ((other & 63) != from && (other >> 6 & 63) == to && men[other & 63] == men[from]) {
                rivals.add(other & 63);
            }
        }
        String origin = "";
        if (!rivals.isEmpty()) {
            boolean file = rivals.stream().noneMatch(s -> s % 8 == from % 8);
            boolean rank = rivals.stream().noneMatch(s -> s / 8 == from / 8);
            origin = file ? name(from).substring(0, 1) : rank ? name(from).substring(1) : name(from);
        }
        return LETTERS.charAt(kind(men[from])) + origin + (men[to] == 0 ? "" : "x") + name(to);
    }

    String sign(int move) {
        Oracle next = after(move);
        return !next.check() ? "" : next.list().isEmpty() ? "#" : "+";
    }

    String spell(int move) {
        return body(move) + sign(move);
    }

    String record() {
        StringBuilder out = new StringBuilder();
        for (int rank = 7; rank >= 0; rank--) {
            for (int file = 0; file < 8; file++) {
                out.append(LETTERS.charAt(men[rank * 8 + file]));
            }
            out.append(rank > 0 ? "/" : "");
        }
        String board = out.toString();
        for (int n = 8; n >= 1; n--) {
            board = board.replace("........".substring(0, n), "" + n);
        }
        String castling = ((rights & 1) != 0 ? "K" : "") + ((rights & 2) != 0 ? "Q" : "")
                + ((rights & 4) != 0 ? "k" : "") + ((rights & 8) != 0 ? "q" : "");
        String pass = passant < 0 ? "-" : "" + (char) ('a' + passant) + (side == 0 ? 6 : 3);
        return board + (side == 0 ? " w " : " b ") + (castling.isEmpty() ? "-" : castling) + " " + pass
                + " " + clock + " " + number;
    }

    boolean dead() {
        List<Integer> rest = new ArrayList<>();
        for (int s = 0; s < 64; s++) {
            if (men[s] != 0 && kind(men[s]) != 6) {
                rest.add(s);
            }
        }
        if (rest.size() == 2) {
            int a = rest.get(0);
            int b = rest.get(1);
            return kind(men[a]) == 3 && kind(men[b]) == 3 && owner(men[a]) != owner(men[b])
                    && (a % 8 + a / 8) % 2 == (b % 8 + b / 8) % 2;
        }
        return rest.isEmpty() || rest.size() == 1 && (kind(men[rest.get(0)]) == 3 || kind(men[rest.get(0)]) == 2);
    }

    int verdict(int count) {
        if (list().isEmpty()) {
            return check() ? 1 : 2;
        }
        if (dead()) {
            return 3;
        }
        if (count >= 5) {
            return 4;
        }
        if (clock >= 150) {
            return 5;
        }
        boolean often = count >= 3;
        boolean late = clock >= 100;
        return often && late ? 8 : often ? 6 : late ? 7 : 0;
    }

    long lines(int depth) {
        if (depth == 0) {
            return 1;
        }
        long sum = 0;
        for (int move : list()) {
            sum += after(move).lines(depth - 1);
        }
        return sum;
    }

    static int turned(int v) {
        return -v < -900 ? -v + 1 : -v > 900 ? -v - 1 : -v;
    }

    int value(int depth) {
        List<Integer> moves = list();
        if (moves.isEmpty()) {
            return check() ? -1000 : 0;
        }
        if (depth == 0) {
            int sum = 0;
            for (int man : men) {
                sum += owner(man) == side ? WORTH[kind(man)] : -WORTH[kind(man)];
            }
            return sum;
        }
        int best = Integer.MIN_VALUE;
        for (int move : moves) {
            best = Math.max(best, turned(after(move).value(depth - 1)));
        }
        return best;
    }

    int best(int depth) {
        List<Integer> moves = list();
        int value = value(depth);
        for (int i = 0; i < moves.size() && depth > 0; i++) {
            if (turned(after(moves.get(i)).value(depth - 1)) == value) {
                return i;
            }
        }
        return -1;
    }

    /** What reading a text answers: the fault, the number of its move, and the game if it is right. */
    static final class Reading {
        int fault = 0;
        int move = -1;
        final List<Oracle> game = new ArrayList<>();
        final List<Integer> moves = new ArrayList<>();

        Reading refused(int by, int at) {
            fault = by;
            move = at;
            return this;
        }

        int count(int i) {
            String key = game.get(i).key();
            return (int) game.subList(0, i + 1).stream().filter(x -> x.key().equals(key)).count();
        }
    }

    static Reading read(String text) {
        Reading out = new Reading();
        String[] parts = text.split(" ", -1);
        Oracle x = new Oracle();
        for (int field = 1; field <= 6; field++) {
            boolean closed = field == 6 || parts.length > field;
            if (parts.length < field || !x.field(field, parts[field - 1]) || !closed) {
                return out.refused(field, -1);
            }
        }
        int fault = x.positionFault();
        if (fault != 0) {
            return out.refused(fault, -1);
        }
        out.game.add(x);
        for (int k = 6; k < parts.length; k++) {
            fault = step(out, parts[k]);
            if (fault != 0) {
                return out.refused(fault, k - 6);
            }
        }
        return out;
    }

    private static int step(Reading out, String word) {
        int last = out.game.size() - 1;
        Oracle x = out.game.get(last);
        int verdict = x.verdict(out.count(last));
        if (verdict >= 1 && verdict <= 5 || last >= 600) {
            return 20;
        }
        if (!FORM.matcher(word).matches()) {
            return 21;
        }
        String body = word.replaceAll("[+#]$", "");
        boolean meant = false;
        for (int move : x.list()) {
            if (!x.meant(move, body)) {
                continue;
            }
            meant = true;
            if (x.body(move).equals(body)) {
                if (!x.spell(move).equals(word)) {
                    return 24;
                }
                out.game.add(x.after(move));
                out.moves.add(move);
                return 0;
            }
        }
        return meant ? 23 : 22;
    }

    private boolean meant(int move, String body) {
        if (castles(move) || body.startsWith("0")) {
            return castles(move) && body(move).equals(body);
        }
        Matcher man = Pattern.compile("([KQRBN]?).*?([a-h][1-8])([QRBN]?)").matcher(body);
        if (!man.matches()) {
            return false;
        }
        int kind = man.group(1).isEmpty() ? 1 : LETTERS.indexOf(man.group(1));
        int become = man.group(3).isEmpty() ? 0 : LETTERS.indexOf(man.group(3));
        return kind(men[move & 63]) == kind && name(move >> 6 & 63).equals(man.group(2)) && move >> 12 == become;
    }

    private boolean field(int field, String word) {
        switch (field) {
            case 1: return men(word);
            case 2:
                side = word.equals("b") ? 1 : 0;
                return word.equals("w") || word.equals("b");
            case 3:
                for (int k = 0; k < 4; k++) {
                    rights |= word.indexOf("KQkq".charAt(k)) >= 0 ? 1 << k : 0;
                }
                return word.matches("-|K?Q?k?q?") && !word.isEmpty();
            case 4:
                passant = word.equals("-") || word.isEmpty() ? -1 : word.charAt(0) - 'a';
                return word.matches(side == 0 ? "-|[a-h]6" : "-|[a-h]3");
            case 5:
                clock = word.matches("0|[1-9][0-9]{0,2}") ? Integer.parseInt(word) : -1;
                return clock >= 0;
            default:
                number = word.matches("[1-9][0-9]{0,3}") ? Integer.parseInt(word) : -1;
                return number >= 1;
        }
    }

    private boolean men(String word) {
        if (!MEN.matcher(word).matches() || word.matches(".*[1-8][1-8].*")) {
            return false;
        }
        String[] ranks = word.split("/");
        for (int r = 0; r < 8; r++) {
            String rank = ranks[r];
            for (int n = 1; n <= 8; n++) {
                rank = rank.replace("" + n, "........".substring(0, n));
            }
            if (rank.length() != 8) {
                return false;
            }
            for (int f = 0; f < 8; f++) {
                men[(7 - r) * 8 + f] = LETTERS.indexOf(rank.charAt(f));
            }
        }
        return true;
    }

    private int many(int man) {
        int many = 0;
        for (int m : men) {
            many += m == man ? 1 : 0;
        }
        return many;
    }

    private int positionFault() {
        if (many(6) != 1 || many(12) != 1) {
            return 7;
        }
        for (int s = 0; s < 64; s++) {
            if (kind(men[s]) == 1 && (s / 8 == 0 || s / 8 == 7)) {
                return 8;
            }
        }
        for (int base = 0; base <= 6; base += 6) {
            int more = 0;
            int[] usual = {0, 0, 2, 2, 2, 1};
            for (int k = 2; k <= 5; k++) {
                more += Math.max(0, many(base + k) - usual[k]);
            }
            if (many(base + 1) > 8 || more > 8 - many(base + 1)) {
                return 8;
            }
        }
        int[] corners = {7, 0, 63, 56};
        for (int k = 0; k < 4; k++) {
            int base = k < 2 ? 0 : 6;
            if ((rights & 1 << k) != 0 && (men[corners[k]] != base + 4 || men[k < 2 ? 4 : 60] != base + 6)) {
                return 9;
            }
        }
        if (passant >= 0) {
            int pawn = side == 0 ? 7 : 1;
            int fourth = side == 0 ? 4 : 3;
            int third = side == 0 ? 5 : 2;
            int second = side == 0 ? 6 : 1;
            if (men[fourth * 8 + passant] != pawn || men[third * 8 + passant] != 0
                    || men[second * 8 + passant] != 0 || clock != 0) {
                return 10;
            }
        }
        return attacked(king(1 - side), side) ? 11 : 0;
    }
}
