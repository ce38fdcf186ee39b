import java.util.List;
import java.util.Random;

/** Runs of calls by chance (always the same ones) on one object, each answer held against the Model's. */
public final class CallsTest {
    private static final String[] RECORDS = {
        Hall.START,
        "r3k2r/p1ppqpb1/bn2pnp1/3PN3/1p2P3/2N2Q1p/PPPBBPPP/R3K2R w KQkq - 0 1",
        "8/2p5/3p4/KP5r/1R3p1k/8/4P1P1/8 w - - 0 1",
        "r3k2r/8/8/8/8/8/8/R3K2R b KQkq - 98 40",
        "4k3/P7/8/8/8/8/8/4K3 w - - 0 9998",
        "k7/8/8/3pP3/8/8/8/K7 w - d6 0 9",
        "8/8/8/8/8/2k5/7Q/2K5 b - - 147 1",
        "8/8/8/8/8/2k5/7r/2K5 w - - 0 1",
        "4k2r/8/8/8/8/8/8/4K3 b k - 0 1",
        "8/8/3bk3/8/8/3KB3/8/8 w - - 10 60",
        "8/8/8/8/8/4k3/4p3/4K3 w - - 0 1",
        "8/4P3/8/8/8/k7/8/2K5 b - - 3 9"};
    private static final int[] ODD = {-1, 0, 1, 2, 3, 4, 5, 7, 8, 13, 14, 20, 21, 63, 64, 300, Integer.MAX_VALUE, Integer.MIN_VALUE};

    private final Random random;
    private final GameHall hall;
    private final Model model = new Model();
    private int calls = 0;
    private String trail = "";

    private CallsTest(int seed) {
        random = new Random(seed);
        hall = new GameHall(seed % 15);
    }

    public static void main(String[] args) {
        int runs = args.length > 0 ? Integer.parseInt(args[0]) : 25;
        for (int seed = 0; seed < runs; seed++) {
            new CallsTest(seed).run();
        }
        Hall.end("CallsTest");
    }

    private void run() {
        while (calls < 470) {
            int way = random.nextInt(40);
            if (way == 0) {
                load();
            } else if (way < 10) {
                go();
            } else {
                ask(random.nextInt(16), argument());
            }
        }
    }

    private int argument() {
        return random.nextInt(3) == 0 ? ODD[random.nextInt(ODD.length)] : random.nextInt(15);
    }

    /** Forward or back; forward often to where the man came from, so that positions come again. */
    private void go() {
        int many = model.legalMany();
        int back = -1;
        int positions = model.status(3);
        if (positions > 2) {
            int mine = model.historyOf(positions - 2, 3);
            for (int i = 0; i < many && mine >= 0; i++) {
                back = model.legalMove(i) == (mine >> 6 & 63) + 64 * (mine & 63) ? i : back;
            }
        }
        if (random.nextInt(9) == 0 || many == 0) {
            ask(4, 0);
        } else {
            ask(3, back >= 0 && random.nextInt(4) > 0 ? back : random.nextInt(many));
        }
    }

    private void load() {
        String record = RECORDS[random.nextInt(RECORDS.length)];
        StringBuilder text = new StringBuilder(record);
        Oracle x = Oracle.read(record).game.get(0);
        for (int k = random.nextInt(10); k > 0 && !x.list().isEmpty(); k--) {
            List<Integer> list = x.list();
            int move = list.get(random.nextInt(list.size()));
            text.append(' ').append(x.spell(move));
            x = x.after(move);
        }
        if (random.nextInt(3) == 0) {
            text.setCharAt(random.nextInt(text.length()), "x+ 1KQe-".charAt(random.nextInt(8)));
        }
        for (int at = 0; at < text.length(); at += 20) {
            int[] words = new int[5];
            for (int k = 0; k < 20; k++) {
                words[k / 4] = words[k / 4] << 8 | (at + k < text.length() ? text.charAt(at + k) : 'e');
            }
            due("tape", hall.tape(words[0], words[1], words[2], words[3], words[4]) ? 1 : 0,
                    model.tape(words[0], words[1], words[2], words[3], words[4]) ? 1 : 0);
        }
        ask(2, (text.length() + 19) % 20 + 1);
    }

    private void due(String what, long got, long want) {
        calls++;
        Hall.due(trail + what, want, got);
    }

    private void ask(int call, int a) {
        int b = call == 13 ? random.nextInt(3) == 0 ? argument() : random.nextInt(8) : 0;
        int i = call == 13 && random.nextInt(2) == 0 ? model.status(3) - 1 : a;
        String want = Hall.answer(() -> ofModel(call, i, b));
        String got = Hall.answer(() -> ofHall(call, i, b));
        calls++;
        Hall.due(trail + " call " + call + "(" + i + ", " + b + ")", want, got);
        if (call >= 2 && call <= 4) {
            trail = "behind " + model.record() + ": ";
        }
    }

    private long ofHall(int call, int a, int b) {
        switch (call) {
            case 0: return hall.status(a);
            case 1: return hall.legalMany();
            case 2: return hall.submit(a);
            case 3: return hall.proceed(a);
            case 4: return hall.retreat() ? 1 : 0;
            case 5: return hall.legalMove(a);
            case 6: return hall.spelling(a);
            case 7: return hall.recordAt(a);
            case 8: return hall.manOn(a);
            case 9: return hall.linesTo(a);
            case 10: return hall.valueAt(a);
            case 11: return hall.bestAt(a);
            case 12: return hall.distanceToMate();
            case 13: return hall.historyOf(a, b);
            case 14: return hall.matingMove();
            default: return hall.tape(a, b, 0, 0, a) ? 1 : 0;
        }
    }

    private long ofModel(int call, int a, int b) {
        switch (call) {
            case 0: return model.status(a);
            case 1: return model.legalMany();
            case 2: return model.submit(a);
            case 3: return model.proceed(a);
            case 4: return model.retreat() ? 1 : 0;
            case 5: return model.legalMove(a);
            case 6: return model.spelling(a);
            case 7: return model.recordAt(a);
            case 8: return model.manOn(a);
            case 9: return model.linesTo(a);
            case 10: return model.valueAt(a);
            case 11: return model.bestAt(a);
            case 12: return model.distanceToMate();
            case 13: return model.historyOf(a, b);
            case 14: return model.matingMove();
            default: return model.tape(a, b, 0, 0, a) ? 1 : 0;
        }
    }
}
