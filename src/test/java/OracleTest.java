import java.util.List;
import java.util.Random;

/** Games and texts by chance (always the same ones), each answer held against the Oracle's. */
public final class OracleTest {
    private static final String[] RECORDS = {
        Hall.START,
        "r3k2r/p1ppqpb1/bn2pnp1/3PN3/1p2P3/2N2Q1p/PPPBBPPP/R3K2R w KQkq - 0 1",
        "8/2p5/3p4/KP5r/1R3p1k/8/4P1P1/8 w - - 0 1",
        "r3k2r/Pppp1ppp/1b3nbN/nP6/BBP1P3/q4N2/Pp1P2PP/R2Q1RK1 w kq - 0 1",
        "rnbq1k1r/pp1Pbppp/2p5/8/2B5/8/PPP1NnPP/RNBQK2R w KQ - 1 8",
        "r3k2r/8/8/8/8/8/8/R3K2R b KQkq - 98 40",
        "4k3/P6P/8/8/8/8/p6p/4K3 w - - 0 9998",
        "k7/8/8/3pP3/8/8/8/K7 w - d6 0 9",
        "8/8/8/K1pP3r/8/8/8/7k w - c6 0 3",
        "7k/8/8/8/1p6/8/P7/K7 w - - 140 80",
        "1N1N1N2/8/1N3N2/8/1N1N2R1/7k/5R2/K2R4 w - - 3 4",
        "2q4k/8/q3q3/8/2q5/8/6K1/8 b - - 0 1",
        "8/8/3bk3/8/8/3KB3/8/8 w - - 10 60",
        "8/8/4k3/8/8/3K4/6n1/5N2 w - - 96 60",
        "8/8/8/8/8/2k5/7Q/2K5 w - - 0 1",
        "7k/5Q2/8/8/8/8/8/6RK w - - 0 1",
    };

    private OracleTest() {
    }

    public static void main(String[] args) {
        Random random = new Random(20260801);
        for (int round = 0; round < 90; round++) {
            playGame(random, RECORDS[round % RECORDS.length], 12 + random.nextInt(60));
        }
        for (int round = 0; round < 6000; round++) {
            readText(random, RECORDS[random.nextInt(RECORDS.length)]);
        }
        lookDeep();
        Hall.end("OracleTest");
    }

    private static void playGame(Random random, String record, int plies) {
        Oracle.Reading game = Oracle.read(record);
        StringBuilder text = new StringBuilder(record);
        for (int ply = 0; ply < plies; ply++) {
            Oracle x = game.game.get(game.game.size() - 1);
            compare(text.toString(), game, random);
            int verdict = x.verdict(game.count(game.game.size() - 1));
            if (verdict >= 1 && verdict <= 5) {
                return;
            }
            int move = pick(random, x, game);
            text.append(' ').append(x.spell(move));
            game.moves.add(move);
            game.game.add(x.after(move));
        }
    }

    /** Often back where the man came from, so that positions come again. */
    private static int pick(Random random, Oracle x, Oracle.Reading game) {
        int many = game.moves.size();
        if (many >= 2 && random.nextInt(3) > 0) {
            int mine = game.moves.get(many - 2);
            int back = (mine >> 6 & 63) + 64 * (mine & 63);
            if (x.list().contains(back)) {
                return back;
            }
        }
        return x.list().get(random.nextInt(x.list().size()));
    }

    private static void compare(String text, Oracle.Reading game, Random random) {
        GameHall hall = new GameHall(random.nextInt(20) - 4);
        int last = game.game.size() - 1;
        Oracle x = game.game.get(last);
        List<Integer> list = x.list();
        Hall.due(text + ": submit", last, Hall.submit(hall, text));
        Hall.due(text + ": legalMany", list.size(), hall.legalMany());
        for (int i = 0; i < list.size() && i < hall.legalMany(); i++) {
            Hall.due(text + ": legalMove " + i, list.get(i), hall.legalMove(i));
            Hall.due(text + ": spelling " + i, x.spell(list.get(i)), Hall.text(hall.spelling(i)));
        }
        Hall.due(text + ": record", x.record(), Hall.record(hall));
        compareStatus(text, game, hall);
        compareHistory(text, game, hall, last);
        compareHistory(text, game, hall, random.nextInt(last + 1));
        for (int depth = 0; depth <= 2; depth++) {
            if (depth < 2 || random.nextInt(8) == 0) {
                compareLook(text, x, hall, depth);
            }
        }
        if (!list.isEmpty() && hall.status(4) % 5 == 0 && hall.status(4) != 5) {
            int i = random.nextInt(list.size());
            Oracle.Reading longer = Oracle.read(text);
            longer.game.add(x.after(list.get(i)));
            Hall.due(text + ": proceed " + i, longer.game.get(last + 1).verdict(longer.count(last + 1)), hall.proceed(i));
            Hall.due(text + ": record behind " + i, x.after(list.get(i)).record(), Hall.record(hall));
            Hall.due(text + ": retreat", 1, hall.retreat() ? 1 : 0);
        }
        Hall.due(text + ": record again", x.record(), Hall.record(hall));
        compareStatus(text, game, hall);
    }

    private static void compareLook(String text, Oracle x, GameHall hall, int depth) {
        Hall.due(text + ": linesTo " + depth, x.lines(depth), hall.linesTo(depth));
        Hall.due(text + ": valueAt " + depth, x.value(depth), hall.valueAt(depth));
        Hall.due(text + ": bestAt " + depth, x.best(depth), hall.bestAt(depth));
    }

    private static void compareStatus(String text, Oracle.Reading game, GameHall hall) {
        int last = game.game.size() - 1;
        Oracle x = game.game.get(last);
        int men = 0;
        for (int square = 0; square < 64; square++) {
            men += x.men[square] == 0 ? 0 : 1;
        }
        int different = 0;
        int greatest = 0;
        for (int i = 0; i <= last; i++) {
            different += game.count(i) == 1 ? 1 : 0;
            greatest = Math.max(greatest, game.count(i));
        }
        int[] due = {0, 0, -1, last + 1, x.verdict(game.count(last)), x.side, x.rights, x.passant, x.clock,
            x.number, men, different, greatest, 1, -1};
        for (int which = 0; which < due.length; which++) {
            Hall.due(text + ": status " + which, due[which], hall.status(which));
        }
    }

    private static void compareHistory(String text, Oracle.Reading game, GameHall hall, int i) {
        Oracle x = game.game.get(i);
        int first = 0;
        while (!game.game.get(first).key().equals(x.key())) {
            first++;
        }
        int[] due = {game.count(i), x.clock, x.verdict(game.count(i)), i == 0 ? -1 : game.moves.get(i - 1),
            x.list().size(), x.check() ? 1 : 0, first, x.passing()};
        for (int w = 0; w < due.length; w++) {
            Hall.due(text + ": historyOf " + i + " " + w, due[w], hall.historyOf(i, w));
        }
    }

    /** A right text with some characters changed: its first fault, or that it has none. */
    private static void readText(Random random, String record) {
        Oracle x = Oracle.read(record).game.get(0);
        StringBuilder text = new StringBuilder(record);
        for (int k = random.nextInt(4); k > 0 && !x.list().isEmpty(); k--) {
            int move = x.list().get(random.nextInt(x.list().size()));
            text.append(' ').append(x.spell(move));
            x = x.after(move);
        }
        int from = random.nextInt(3) == 0 ? 0 : random.nextInt(text.length());
        String signs = " -/0123456789KQRBNPkqrbnpabcdefghxw+#\0\u00ff\n";
        for (int k = random.nextInt(4); k > 0; k--) {
            char sign = signs.charAt(random.nextInt(signs.length()));
            int at = from + random.nextInt(text.length() - from + 1);
            int way = at == text.length() ? 0 : random.nextInt(3);
            if (way == 0) {
                text.insert(at, sign);
            } else if (way == 1) {
                text.setCharAt(at, sign);
            } else {
                text.deleteCharAt(at);
            }
            from = Math.min(from, text.length());
        }
        Oracle.Reading due = Oracle.read(text.toString());
        GameHall hall = Hall.with(Hall.START);
        String name = "'" + text + "'";
        Hall.due(name + ": submit", due.fault == 0 ? due.game.size() - 1 : -1, Hall.submit(hall, text.toString()));
        Hall.due(name + ": fault", due.fault, hall.status(1));
        Hall.due(name + ": move", due.move, hall.status(2));
        Hall.due(name + ": taken", due.fault == 0 ? 2 : 1, hall.status(13));
        String record2 = due.fault == 0 ? due.game.get(due.game.size() - 1).record() : Hall.START;
        Hall.due(name + ": record", record2, Hall.record(hall));
    }

    private static void lookDeep() {
        String[] three = {RECORDS[2], RECORDS[6], RECORDS[7], RECORDS[8], RECORDS[9], RECORDS[12], RECORDS[13],
            "6k1/5ppp/8/8/8/8/5PPP/3R2K1 w - - 0 1", "k7/2Q5/8/8/8/8/8/1R5K b - - 0 1",
            "7k/8/5K2/6Q1/8/8/8/8 w - - 0 1"};
        for (String record : three) {
            compareLook(record, Oracle.read(record).game.get(0), Hall.with(record), 3);
        }
        String[] four = {RECORDS[14], "8/8/8/8/8/1k6/7r/K7 b - - 0 1", "8/4P3/8/8/8/k7/8/2K5 w - - 0 1",
            "k7/8/1K6/8/8/8/8/7R w - - 0 1", "8/8/8/8/8/2k5/8/K6R b - - 0 1", "8/8/8/8/8/2k5/8/K7 b - - 0 1"};
        for (String record : four) {
            Oracle x = Oracle.read(record).game.get(0);
            Hall.due(record + ": valueAt 4", x.value(4), Hall.with(record).valueAt(4));
            Hall.due(record + ": bestAt 4", x.best(4), Hall.with(record).bestAt(4));
        }
    }
}
