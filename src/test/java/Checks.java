import java.nio.charset.StandardCharsets;
import java.util.Arrays;

/** What the tests share: it tells every answer that is not due, and counts them. */
final class Checks {
    interface Call {
        long run();
    }

    private int asked = 0;
    private int wrong = 0;

    void due(String what, long got, long want) {
        asked++;
        if (got != want) {
            wrong++;
            System.out.println(what + ": answered " + got + ", due is " + want);
        }
    }

    void dueDouble(String what, double got, double want) {
        asked++;
        if (Double.compare(got, want) != 0) {
            wrong++;
            System.out.println(what + ": answered " + got + ", due is " + want);
        }
    }

    void isTrue(String what, boolean holds) {
        asked++;
        if (!holds) {
            wrong++;
            System.out.println(what + ": does not hold");
        }
    }

    /** The call has to throw exactly this and to change nothing. */
    void raises(FjordHaul x, String what, Class<? extends RuntimeException> want, Call call) {
        asked++;
        long before = x.digest();
        int errorAt = x.errorAt();
        String got = "nothing";
        try {
            call.run();
        } catch (RuntimeException e) {
            got = e.getClass().getSimpleName();
        }
        if (!got.equals(want.getSimpleName())) {
            wrong++;
            System.out.println(what + ": threw " + got + ", due is " + want.getSimpleName());
        }
        if (x.digest() != before || x.errorAt() != errorAt) {
            wrong++;
            System.out.println(what + ": changed the state though it threw");
        }
    }

    void end() {
        System.out.println(asked + " checks, " + wrong + " wrong");
        if (wrong != 0) {
            System.exit(1);
        }
    }

    static byte[] bytes(String text) {
        return text.getBytes(StandardCharsets.ISO_8859_1);
    }

    /** Puts the text behind what the tape holds. */
    static void write(FjordHaul x, String text) {
        byte[] all = bytes(text);
        int length = x.count(12);
        for (int i = 0; i < all.length; i += 20) {
            byte[] part = Arrays.copyOfRange(all, i, i + 20);
            x.feed(number(part, 0), number(part, 4), number(part, 8), number(part, 12), number(part, 16));
        }
        x.trim(length + all.length);
    }

    static int number(byte[] part, int from) {
        int number = 0;
        for (int i = from; i < from + 4; i++) {
            number = number * 256 + (part[i] & 255);
        }
        return number;
    }

    static int teach(FjordHaul x, String text) {
        write(x, text);
        return x.teach();
    }

    static FjordHaul taught(String text) {
        FjordHaul x = new FjordHaul();
        if (teach(x, text) != 0) {
            throw new AssertionError("error at " + x.errorAt() + " of " + text);
        }
        return x;
    }
}
