import java.nio.charset.StandardCharsets;

/** What the tests do with a GameHall again and again, and how they count what is wrong. */
final class Hall {
    static final String START = "rnbqkbnr/pppppppp/8/8/8/8/PPPPPPPP/RNBQKBNR w KQkq - 0 1";
    private static int wrong = 0;
    private static int looked = 0;

    private Hall() {
    }

    static void due(String what, long want, long got) {
        looked++;
        if (want != got) {
            wrong++;
            System.out.println(shortened(what) + " answered " + got + ", due is " + want);
        }
    }

    static void due(String what, String want, String got) {
        looked++;
        if (!want.equals(got)) {
            wrong++;
            System.out.println(shortened(what) + " answered " + got + ", due is " + want);
        }
    }

    static void end(String test) {
        System.out.println(test + ": " + looked + " answers, " + wrong + " not as due");
        if (wrong != 0) {
            System.exit(1);
        }
    }

    /** A call that may throw; its answer does not matter then. */
    interface Call {
        long run();
    }

    static void dueThrows(String what, Class<? extends RuntimeException> want, Call call) {
        looked++;
        String got;
        try {
            got = "answered " + call.run();
        } catch (RuntimeException e) {
            if (e.getClass() == want) {
                return;
            }
            got = "threw " + e.getClass().getName();
        }
        wrong++;
        System.out.println(shortened(what) + " " + got + ", due is " + want.getName());
    }

    private static String shortened(String what) {
        int most = 300;
        return what.length() <= most ? what : what.substring(0, most / 2) + " .. " + what.substring(what.length() - most / 2);
    }

    /** Brings a text to the tape; answers the n that submit() needs for it. */
    static int load(GameHall hall, String text) {
        byte[] bytes = text.getBytes(StandardCharsets.ISO_8859_1);
        for (int at = 0; at < bytes.length; at += 20) {
            int[] words = new int[5];
            for (int k = 0; k < 20; k++) {
                int sign = at + k < bytes.length ? bytes[at + k] & 255 : 'z';
                words[k / 4] = words[k / 4] << 8 | sign;
            }
            if (!hall.tape(words[0], words[1], words[2], words[3], words[4])) {
                throw new IllegalStateException("the tape is full");
            }
        }
        return bytes.length == 0 || bytes.length % 20 == 0 ? 20 : bytes.length % 20;
    }

    static int submit(GameHall hall, String text) {
        return hall.submit(load(hall, text));
    }

    static GameHall with(String text) {
        GameHall hall = new GameHall(3);
        if (submit(hall, text) < 0) {
            throw new IllegalStateException("refused by " + hall.status(1) + ": " + shortened(text));
        }
        return hall;
    }

    /** A text of so many moves: kings walk along their ranks, and pawns step before the clock is full. */
    static String longText(int moves) {
        StringBuilder out = new StringBuilder("k7/pppppppp/8/8/8/8/PPPPPPPP/K7 w - - 0 1");
        String white = "bcdefghgfedcba";
        String black = "bcba";
        int walked = 0;
        for (int k = 0; k < moves; k++) {
            if (k % 26 == 24) {
                int step = k / 26;
                out.append(' ').append((char) ('a' + step % 8)).append(3 + step / 8);
            } else if (k % 2 == 0) {
                out.append(" K").append(white.charAt(walked++ % 14)).append('1');
            } else {
                out.append(" K").append(black.charAt(k / 2 % 4)).append('8');
            }
        }
        return out.toString();
    }

    static String text(long word) {
        StringBuilder out = new StringBuilder();
        for (int k = 0; k < 8; k++) {
            int sign = (int) (word >>> 56 - 8 * k) & 255;
            if (sign != 0) {
                out.append((char) sign);
            }
        }
        return out.toString();
    }

    static String record(GameHall hall) {
        StringBuilder out = new StringBuilder();
        for (int k = 0; k < 16; k++) {
            out.append(text(hall.recordAt(k)));
        }
        return out.toString();
    }

    static String spellings(GameHall hall) {
        StringBuilder out = new StringBuilder();
        for (int i = 0; i < hall.legalMany(); i++) {
            out.append(i == 0 ? "" : " ").append(text(hall.spelling(i)));
        }
        return out.toString();
    }

    /** The place of a move in the list by its spelling, or -1. */
    static int place(GameHall hall, String spelling) {
        for (int i = 0; i < hall.legalMany(); i++) {
            if (text(hall.spelling(i)).equals(spelling)) {
                return i;
            }
        }
        return -1;
    }

    static int play(GameHall hall, String spelling) {
        return hall.proceed(place(hall, spelling));
    }
}
