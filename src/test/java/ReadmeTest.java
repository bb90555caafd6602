import java.nio.file.Files;
import java.nio.file.Path;
import java.util.ArrayList;
import java.util.List;

/** The calls of README.md, one by one in their order: each answers what is written behind it there. */
public final class ReadmeTest {
    private static final String TEXT_BEGINS = "write(x, \"\"\"";
    private static final String TEXT_ENDS = "\"\"\");";
    private static final Checks checks = new Checks();
    private static List<String> lines;
    private static int next = 0;

    public static void main(String[] args) throws Exception {
        lines = codeOf(Files.readAllLines(Path.of("README.md")));
        told("FjordHaul x = new FjordHaul();");
        FjordHaul x = new FjordHaul();
        aNewObject(x);
        theWayToWrite(Files.readAllLines(Path.of("src/test/java/ReadmeTest.java")));
        aListIsTaught(x);
        aListWithAnError(x);
        questions(x);
        hoursGoBy(x);
        byHand(x);
        refusedCalls(x);
        checks.due("lines of code that are left", lines.size() - next, 0);
        checks.end();
    }

    private static List<String> codeOf(List<String> page) {
        List<String> code = new ArrayList<>();
        boolean inside = false;
        for (String line : page) {
            if (line.startsWith("```")) {
                inside = line.equals("```java");
            } else if (inside) {
                code.add(line.strip());
            }
        }
        return code;
    }

    private static String nextLine() {
        return next < lines.size() ? lines.get(next++) : "no line";
    }

    private static void told(String code) {
        String line = nextLine();
        checks.isTrue("README tells " + code + " where it has: " + line, line.equals(code));
    }

    /** The call stands there with this answer behind it, alone or with what it means behind a colon. */
    private static void answers(String call, Object answer) {
        String line = nextLine();
        int behind = line.indexOf("//");
        boolean same = behind > 0 && line.substring(0, behind).strip().equals(call + ";");
        String said = behind > 0 ? line.substring(behind + 2).strip() : "";
        checks.isTrue(call + " answers " + answer + ", README has: " + line,
                same && (said + ":").startsWith(answer + ":"));
    }

    private static void throwsThere(FjordHaul x, String call, Class<? extends RuntimeException> what, Checks.Call made) {
        checks.raises(x, call, what, made);
        answers(call, "throws " + what.getSimpleName());
    }

    private static void aNewObject(FjordHaul x) {
        answers("x.count(0)", x.count(0));
        answers("x.count(2)", x.count(2));
        answers("x.errorAt()", x.errorAt());
    }

    static void write(FjordHaul x, String text) {
        int[] n = new int[5];
        for (int from = 0; from < text.length(); from += 20) {
            for (int i = 0; i < 20; i++) {
                int sign = from + i < text.length() ? text.charAt(from + i) : ' ';
                n[i / 4] = n[i / 4] << 8 | sign;
            }
            x.feed(n[0], n[1], n[2], n[3], n[4]);
        }
    }

    /** README's write is the one above, sign by sign. */
    private static void theWayToWrite(List<String> source) {
        int from = source.indexOf("    static void write(FjordHaul x, String text) {");
        checks.isTrue("write stands here", from >= 0);
        int to = from;
        while (to < source.size() && !source.get(to).equals("    }")) {
            told(source.get(to).strip());
            to++;
        }
        told("}");
    }

    private static void aListIsTaught(FjordHaul x) {
        told(TEXT_BEGINS);
        StringBuilder text = new StringBuilder();
        for (String line = nextLine(); !line.equals(TEXT_ENDS) && next < lines.size(); line = nextLine()) {
            text.append(line).append('\n');
        }
        write(x, text.toString());
        answers("x.count(12)", x.count(12));
        answers("x.teach()", x.teach());
        answers("x.errorAt()", x.errorAt());
        answers("x.stretch(1, 1)", x.stretch(1, 1));
        answers("x.horse(0, 3)", x.horse(0, 3));
        answers("x.log(2, 0)", x.log(2, 0));
    }

    private static void aListWithAnError(FjordHaul x) {
        told("write(x, \"log d weight 61;\");");
        write(x, "log d weight 61;");
        answers("x.teach()", x.teach());
        answers("x.errorAt()", x.errorAt());
        answers("x.count(4)", x.count(4));
        answers("x.count(12)", x.count(12));
    }

    private static void questions(FjordHaul x) {
        answers("x.arrives(0)", x.arrives(0));
        answers("x.arrives(1)", x.arrives(1));
        answers("x.breaks(1)", x.breaks(1));
        answers("x.foresee(24, 0)", x.foresee(24, 0));
        answers("x.foresee(24, 1)", x.foresee(24, 1));
        answers("x.advise(24)", x.advise(24));
        answers("x.choose(24)", x.choose(24));
        answers("x.needs(1, 0)", x.needs(1, 0));
        answers("x.count(0)", x.count(0));
    }

    private static void hoursGoBy(FjordHaul x) {
        answers("x.pass(6)", x.pass(6));
        answers("x.log(0, 3)", x.log(0, 3));
        answers("x.log(1, 1)", x.log(1, 1));
        answers("x.horse(1, 1)", x.horse(1, 1));
        answers("x.mean()", x.mean());
    }

    private static void byHand(FjordHaul x) {
        answers("x.setWeather(3)", x.setWeather(3));
        answers("x.pass(1)", x.pass(1));
        answers("x.stretch(0, 2)", x.stretch(0, 2));
        answers("x.clear(0)", x.clear(0));
        answers("x.forge(1, 2)", x.forge(1, 2));
        answers("x.arrives(1)", x.arrives(1));
        answers("x.pass(24)", x.pass(24));
        answers("x.count(6)", x.count(6));
    }

    private static void refusedCalls(FjordHaul x) {
        throwsThere(x, "x.log(3, 0)", IndexOutOfBoundsException.class, () -> x.log(3, 0));
        throwsThere(x, "x.pass(121)", IllegalArgumentException.class, () -> x.pass(121));
        throwsThere(x, "x.forge(2, 10)", IndexOutOfBoundsException.class, () -> x.forge(2, 10));
        throwsThere(x, "x.foresee(0, 4)", IllegalArgumentException.class, () -> x.foresee(0, 4));
        throwsThere(x, "x.trim(1)", IllegalArgumentException.class, () -> x.trim(1));
        answers("x.count(0)", x.count(0));
    }
}
