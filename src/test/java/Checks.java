import java.nio.charset.StandardCharsets;
import java.util.Arrays;

/** What the tests share: it tells every answer that is not due, and counts them. */
final class Checks {
    interface Call {
        long run();
    }

    /** What an object was told ahead; its names are those that the lists of the tests use too. */
    private static final String EARLIER = "stretch s long 2 slope 0 frost 1;stretch x long 3 slope 2 frost 0;"
            + "horse h pull 60 links 2 iron 30 bell;horse x pull 40 links 3 iron 12;log a weight 9;log b weight 14;"
            + "log l weight 20;log m weight 3;haul h with 24 when hour < 9;haul x with 12 + fallen x;"
            + "wait h at s when hour = 2;";

    private int asked = 0;
    private int wrong = 0;

    void due(String what, long got, long want) {
        asked++;
        if (got != want) {
            wrong++;
            System.out.println(what + ": answered " + got + ", due is " + want);
        }
    }

    void dueDouble(String what, double got, double want) {
        asked++;
        if (Double.compare(got, want) != 0) {
            wrong++;
            System.out.println(what + ": answered " + got + ", due is " + want);
        }
    }

    void isTrue(String what, boolean holds) {
        asked++;
        if (!holds) {
            wrong++;
            System.out.println(what + ": does not hold");
        }
    }

    /** The call has to throw exactly this and to change nothing. */
    void raises(FjordHaul x, String what, Class<? extends RuntimeException> want, Call call) {
        asked++;
        long before = x.digest();
        int errorAt = x.errorAt();
        String got = "nothing";
        try {
            call.run();
        } catch (RuntimeException e) {
            got = e.getClass().getSimpleName();
        }
        if (!got.equals(want.getSimpleName())) {
            wrong++;
            System.out.println(what + ": threw " + got + ", due is " + want.getSimpleName());
        }
        if (x.digest() != before || x.errorAt() != errorAt) {
            wrong++;
            System.out.println(what + ": changed the state though it threw");
        }
    }

    /** The list has no error, and what was told and done ahead of it is not seen behind it. */
    void right(String text) {
        FjordHaul x = new FjordHaul();
        due(text, teach(x, text), 0);
        due("errorAt of " + text, x.errorAt(), -1);
        FjordHaul used = used();
        due("behind another: " + text, teach(used, text), 0);
        FjordHaul other = new FjordHaul();
        other.pass(used.count(0));
        teach(other, text);
        sameHours("behind another: " + text, used, other);
    }

    /** The list has this error there, and changes nothing. */
    void wrong(String text, int error, int at) {
        FjordHaul x = used();
        long before = x.digest();
        due(text, teach(x, text), error);
        due("errorAt of " + text, x.errorAt(), at);
        due("tape behind " + text, x.count(12), 0);
        due("nothing changed by " + text, x.digest(), before);
        sameHours("nothing changed by " + text, x, used());
    }

    /** The error is at the first sign of the mark in the text, which is no part of the list. */
    void wrongAtMark(int error, String text) {
        wrong(text.replace("~", ""), error, text.indexOf('~'));
    }

    private static FjordHaul used() {
        FjordHaul x = taught(EARLIER);
        x.pass(3);
        return x;
    }

    private void sameHours(String what, FjordHaul x, FjordHaul y) {
        for (int i = 0; i < 9; i++) {
            due(what + ", pass " + i, x.pass(1), y.pass(1));
            due(what + ", digest " + i, x.digest(), y.digest());
        }
    }

    /** Stretch, way, units, load and how tired of a horse, as many as there are numbers. */
    void facts(FjordHaul x, String when, int horse, int... want) {
        String[] names = {"stretch", "down", "units", "load", "tired"};
        for (int i = 0; i < want.length; i++) {
            due(when + ": " + names[i] + " of horse " + horse, x.horse(horse, 4 + i), want[i]);
        }
    }

    /** A list of stretches s0, s1 and so on, as "long slope frost" with commas between them, and of these lines. */
    static String road(String stretches, String... lines) {
        StringBuilder text = new StringBuilder();
        String[] all = stretches.split(",");
        for (int i = 0; i < all.length; i++) {
            String[] n = all[i].trim().split(" ");
            text.append("stretch s").append(i).append(" long ").append(n[0]).append(" slope ")
                    .append(n[1].replace("-", "- ")).append(" frost ").append(n[2]).append(";");
        }
        for (String line : lines) {
            text.append(line).append(";");
        }
        return text.toString();
    }

    void end() {
        System.out.println(asked + " checks, " + wrong + " wrong");
        if (wrong != 0) {
            System.exit(1);
        }
    }

    static byte[] bytes(String text) {
        return text.getBytes(StandardCharsets.ISO_8859_1);
    }

    /** Puts the text behind what the tape holds. */
    static void write(FjordHaul x, String text) {
        byte[] all = bytes(text);
        int length = x.count(12);
        for (int i = 0; i < all.length; i += 20) {
            byte[] part = Arrays.copyOfRange(all, i, i + 20);
            x.feed(number(part, 0), number(part, 4), number(part, 8), number(part, 12), number(part, 16));
        }
        x.trim(length + all.length);
    }

    static int number(byte[] part, int from) {
        int number = 0;
        for (int i = from; i < from + 4; i++) {
            number = number * 256 + (part[i] & 255);
        }
        return number;
    }

    static int teach(FjordHaul x, String text) {
        write(x, text);
        return x.teach();
    }

    static FjordHaul taught(String text) {
        FjordHaul x = new FjordHaul();
        if (teach(x, text) != 0) {
            throw new AssertionError("error at " + x.errorAt() + " of " + text);
        }
        return x;
    }
}
