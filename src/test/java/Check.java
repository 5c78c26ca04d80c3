import java.nio.charset.StandardCharsets;
import java.util.function.IntUnaryOperator;

/** Counts the answers that are not as due, and tells each. */
final class Check {
    private final String subject;
    private String sentence = "";
    private int checks;
    private int wrong;

    Check(String subject) {
        this.subject = subject;
    }

    /** Whatever is checked from now on is checked for these words of the document. */
    void under(int promise, String words) {
        sentence = "promise " + promise + ", \"" + words + "\": ";
    }

    void is(String call, long got, long want) {
        checks++;
        if (got != want) {
            wrong++;
            System.out.println(subject + ": " + sentence + call + " answered " + got + ", due is " + want);
        }
    }

    void isTrue(String what, boolean holds) {
        checks++;
        if (!holds) {
            wrong++;
            System.out.println(subject + ": " + sentence + what);
        }
    }

    /** The bounds of a number: at each of them, on both sides of it, and far off; the refusal beyond them. */
    void edges(String number, int least, int most, int refusal, IntUnaryOperator call, IntUnaryOperator due) {
        int[] numbers = {
            Integer.MIN_VALUE, least - 2, least - 1, least, least + 1, most - 1, most, most + 1, most + 2,
            Integer.MAX_VALUE,
        };
        for (int n : numbers) {
            boolean within = n >= least && n <= most;
            is(number + " " + n, call.applyAsInt(n), within ? due.applyAsInt(n) : refusal);
        }
    }

    void finish() {
        System.out.println(subject + ": " + checks + " checks, " + wrong + " wrong");
        if (wrong != 0 || checks == 0) {
            System.exit(1);
        }
    }

    /** Puts a text on the tape, in place of what is there. */
    static void put(TowerAppeal x, String text) {
        x.end(0);
        byte[] bytes = text.getBytes(StandardCharsets.ISO_8859_1);
        for (int at = 0; at < bytes.length; at += 20) {
            x.feed(four(bytes, at), four(bytes, at + 4), four(bytes, at + 8), four(bytes, at + 12), four(bytes, at + 16));
        }
        x.end(bytes.length);
    }

    static int tell(TowerAppeal x, String text) {
        put(x, text);
        return x.trust();
    }

    /** A new object with this TRUST in force. */
    TowerAppeal made(String text) {
        TowerAppeal x = new TowerAppeal();
        isTrue("'" + text + "' is a text", tell(x, text) >= 0);
        return x;
    }

    /** Lets so many months end, by as few calls as can be. */
    static void pass(TowerAppeal x, int months) {
        for (int left = months; left > 0; left -= 24) {
            x.months(Math.min(left, 24));
        }
    }

    private static int four(byte[] bytes, int at) {
        int four = 0;
        for (int i = at; i < at + 4; i++) {
            four = four << 8 | (i < bytes.length ? bytes[i] & 255 : 0);
        }
        return four;
    }
}
