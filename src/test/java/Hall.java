import java.nio.charset.StandardCharsets;
import java.util.Arrays;

/** What the tests do with a GameHall again and again, and how they count what is wrong. */
final class Hall {
    static final String START = "rnbqkbnr/pppppppp/8/8/8/8/PPPPPPPP/RNBQKBNR w KQkq - 0 1";
    private static int wrong = 0;
    private static int looked = 0;
    private static int sentences = 0;
    private static String heading = "";

    private Hall() {
    }

    /** The words of the document that the next answers belong to: they stand ahead of what is wrong. */
    static void about(String words) {
        sentences++;
        heading = "[" + words + "] ";
    }

    static void due(String what, long want, long got) {
        looked++;
        if (want != got) {
            wrong++;
            System.out.println(heading + shortened(what) + " answered " + got + ", due is " + want);
        }
    }

    static void due(String what, String want, String got) {
        looked++;
        if (!want.equals(got)) {
            wrong++;
            System.out.println(heading + shortened(what) + " answered " + got + ", due is " + want);
        }
    }

    static void end(String test) {
        String told = sentences == 0 ? "" : sentences + " sentences, ";
        System.out.println(test + ": " + told + looked + " answers, " + wrong + " not as due");
        if (wrong != 0) {
            System.exit(1);
        }
    }

    /** A call that may throw; its answer does not matter then. */
    interface Call {
        long run();
    }

    static void dueThrows(String what, Class<? extends RuntimeException> want, Call call) {
        looked++;
        String got;
        try {
            got = "answered " + call.run();
        } catch (RuntimeException e) {
            if (e.getClass() == want) {
                return;
            }
            got = "threw " + e.getClass().getName();
        }
        wrong++;
        System.out.println(heading + shortened(what) + " " + got + ", due is " + want.getName());
    }

    /** Makes an object that has come to some state, the same one each time. */
    interface Maker {
        GameHall make();
    }

    /** A call of an object. */
    interface Use {
        long of(GameHall hall);
    }

    /** The call throws, and behind it the object tells what its twin tells that was not called so. */
    static void refuses(String what, Maker maker, Class<? extends RuntimeException> want, Use use) {
        GameHall hall = maker.make();
        dueThrows(what, want, () -> use.of(hall));
        dueTwin(what, hall, maker.make());
    }

    /** The call answers so much, and changes nothing. */
    static void answers(String what, Maker maker, long want, Use use) {
        GameHall hall = maker.make();
        due(what, want, use.of(hall));
        dueTwin(what, hall, maker.make());
    }

    private static void dueTwin(String what, GameHall hall, GameHall twin) {
        due(what + ": all that is told behind it", told(twin), told(hall));
        due(what + ": all that is told a move later", toldLater(twin), toldLater(hall));
    }

    /** What a game tells when it has gone on by a move, and when the move and another one are taken back. */
    static String toldLater(GameHall hall) {
        String word = answer(() -> hall.proceed(0));
        String later = record(hall) + " " + hall.status(4) + " " + hall.status(11);
        String back = " " + hall.retreat() + record(hall) + hall.retreat() + record(hall);
        return word + " " + later + back;
    }

    /** An answer, or the name of what was thrown. */
    static String answer(Call call) {
        try {
            return "" + call.run();
        } catch (RuntimeException e) {
            return e.getClass().getSimpleName();
        }
    }

    /** All that an object tells, in some fifty calls and two for each legal move. */
    static String told(GameHall hall) {
        StringBuilder out = new StringBuilder();
        for (int which = 0; which < 3; which++) {
            out.append(hall.status(which)).append(' ');
        }
        return out.append(toldOfGame(hall)).toString();
    }

    /** All that does not hang on the tape and on the latest text. */
    static String toldOfGame(GameHall hall) {
        StringBuilder out = new StringBuilder(record(hall));
        for (int which = 3; which < 15; which++) {
            out.append(' ').append(hall.status(which));
        }
        int many = hall.legalMany();
        out.append(" list ").append(many);
        for (int i = 0; i < many; i++) {
            out.append(' ').append(hall.legalMove(i)).append(text(hall.spelling(i)));
        }
        int last = hall.status(3) - 1;
        for (int w = 0; w < 8 && last >= 0; w++) {
            out.append(' ').append(hall.historyOf(0, w)).append(' ').append(hall.historyOf(last, w));
        }
        out.append(' ').append(answer(() -> hall.linesTo(1))).append(' ').append(answer(() -> hall.valueAt(1)));
        out.append(' ').append(answer(() -> hall.bestAt(1))).append(' ').append(hall.manOn(4));
        out.append(' ').append(answer(hall::distanceToMate)).append(' ').append(answer(hall::matingMove));
        return out.toString();
    }

    /** The same with white and black changed, the board turned over: a record, and moves behind it. */
    static String mirrored(String text) {
        String[] parts = text.split(" ", -1);
        StringBuilder out = new StringBuilder();
        String[] ranks = parts[0].split("/", -1);
        for (int k = ranks.length - 1; k >= 0; k--) {
            out.append(otherCase(ranks[k])).append(k > 0 ? "/" : "");
        }
        String rights = otherCase(parts[2]);
        out.append(parts[1].equals("w") ? " b " : " w ");
        for (String right : new String[] {"K", "Q", "k", "q", "-"}) {
            out.append(rights.contains(right) ? right : "");
        }
        out.append(' ').append(parts[3].replace('3', '*').replace('6', '3').replace('*', '6'));
        out.append(' ').append(parts[4]).append(' ').append(parts[5]);
        for (int k = 6; k < parts.length; k++) {
            out.append(' ').append(otherRanks(parts[k]));
        }
        return out.toString();
    }

    private static String otherCase(String word) {
        StringBuilder out = new StringBuilder();
        for (char sign : word.toCharArray()) {
            out.append(Character.isUpperCase(sign) ? Character.toLowerCase(sign) : Character.toUpperCase(sign));
        }
        return out.toString();
    }

    /** The ranks of a move, or of squares, as the other side sees them. */
    static String otherRanks(String word) {
        StringBuilder out = new StringBuilder();
        for (char sign : word.toCharArray()) {
            out.append(sign >= '1' && sign <= '8' ? (char) ('1' + '8' - sign) : sign);
        }
        return out.toString();
    }

    private static boolean hasRightRecord(String text) {
        String[] parts = text.split(" ", -1);
        return parts.length >= 6 && Oracle.read(String.join(" ", Arrays.copyOf(parts, 6))).fault == 0;
    }

    /** A text that is refused by this fault at this move; with the sides changed, too, if only a move is at fault. */
    static void refused(String text, int fault, int move) {
        refusedAsItIs(text, fault, move);
        if (hasRightRecord(text)) {
            refusedAsItIs(mirrored(text), fault, move);
        }
    }

    /** The game stays, the tape is empty. */
    private static void refusedAsItIs(String text, int fault, int move) {
        GameHall hall = with("4k3/8/8/8/3p4/8/4P3/4K3 w - - 5 7 e4");
        String before = toldOfGame(hall);
        due("submit of '" + text + "'", -1, submit(hall, text));
        due("fault of '" + text + "'", fault, hall.status(1));
        due("faulty move of '" + text + "'", move, hall.status(2));
        due("tape behind '" + text + "'", 0, hall.status(0));
        due("the game behind '" + text + "'", before, toldOfGame(hall));
    }

    /** A text that is right and has so many moves; the object that has taken it. So with the sides changed. */
    static GameHall taken(String text, int moves) {
        takenAsItIs(mirrored(text), moves);
        return takenAsItIs(text, moves);
    }

    private static GameHall takenAsItIs(String text, int moves) {
        GameHall hall = with("4k3/8/8/8/3p4/8/4P3/4K3 w - - 5 7 e4");
        due("submit of '" + text + "'", moves, submit(hall, text));
        due("fault of '" + text + "'", 0, hall.status(1));
        due("faulty move of '" + text + "'", -1, hall.status(2));
        due("tape behind '" + text + "'", 0, hall.status(0));
        due("positions of '" + text + "'", moves + 1, hall.status(3));
        due("texts taken with '" + text + "'", 2, hall.status(13));
        return hall;
    }

    private static String shortened(String what) {
        int most = 300;
        return what.length() <= most ? what : what.substring(0, most / 2) + " .. " + what.substring(what.length() - most / 2);
    }

    /** Brings a text to the tape; answers the n that submit() needs for it. */
    static int load(GameHall hall, String text) {
        byte[] bytes = text.getBytes(StandardCharsets.ISO_8859_1);
        for (int at = 0; at < bytes.length; at += 20) {
            int[] words = new int[5];
            for (int k = 0; k < 20; k++) {
                int sign = at + k < bytes.length ? bytes[at + k] & 255 : 'z';
                words[k / 4] = words[k / 4] << 8 | sign;
            }
            if (!hall.tape(words[0], words[1], words[2], words[3], words[4])) {
                throw new IllegalStateException("the tape is full");
            }
        }
        return bytes.length == 0 || bytes.length % 20 == 0 ? 20 : bytes.length % 20;
    }

    static int submit(GameHall hall, String text) {
        return hall.submit(load(hall, text));
    }

    static GameHall with(String text) {
        GameHall hall = new GameHall(3);
        if (submit(hall, text) < 0) {
            throw new IllegalStateException("refused by " + hall.status(1) + ": " + shortened(text));
        }
        return hall;
    }

    /** A text of so many moves: kings walk along their ranks, and pawns step before the clock is full. */
    static String longText(int moves) {
        StringBuilder out = new StringBuilder("k7/pppppppp/8/8/8/8/PPPPPPPP/K7 w - - 0 1");
        String white = "bcdefghgfedcba";
        String black = "bcba";
        int walked = 0;
        for (int k = 0; k < moves; k++) {
            if (k % 26 == 24) {
                int step = k / 26;
                out.append(' ').append((char) ('a' + step % 8)).append(3 + step / 8);
            } else if (k % 2 == 0) {
                out.append(" K").append(white.charAt(walked++ % 14)).append('1');
            } else {
                out.append(" K").append(black.charAt(k / 2 % 4)).append('8');
            }
        }
        return out.toString();
    }

    static String text(long word) {
        StringBuilder out = new StringBuilder();
        for (int k = 0; k < 8; k++) {
            int sign = (int) (word >>> 56 - 8 * k) & 255;
            if (sign != 0) {
                out.append((char) sign);
            }
        }
        return out.toString();
    }

    static String record(GameHall hall) {
        StringBuilder out = new StringBuilder();
        long word = hall.recordAt(0);
        for (int k = 1; word != 0 && k < 16; k++) {
            out.append(text(word));
            word = hall.recordAt(k);
        }
        return out.toString();
    }

    static String spellings(GameHall hall) {
        StringBuilder out = new StringBuilder();
        int many = hall.legalMany();
        for (int i = 0; i < many; i++) {
            out.append(i == 0 ? "" : " ").append(text(hall.spelling(i)));
        }
        return out.toString();
    }

    /** The place of a move in the list by its spelling, or -1. */
    static int place(GameHall hall, String spelling) {
        int many = hall.legalMany();
        for (int i = 0; i < many; i++) {
            if (text(hall.spelling(i)).equals(spelling)) {
                return i;
            }
        }
        return -1;
    }

    static int play(GameHall hall, String spelling) {
        return hall.proceed(place(hall, spelling));
    }
}
