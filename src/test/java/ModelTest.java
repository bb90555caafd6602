import java.util.ArrayList;
import java.util.List;
import java.util.Random;

/** Compares FjordHaul with the model, in many runs of random lists and calls that are always the same. */
public final class ModelTest {
    private static final int RUNS = 700;
    private static final int CALLS = 70;
    private static final int LISTS = 15000;
    private static final String[] TOKENS = {"stretch", "long", "slope", "frost", "horse", "pull", "links", "iron",
        "bell", "log", "weight", "haul", "with", "when", "wait", "at", "hour", "weather", "pile", "raft", "tired",
        "load", "fallen", "not", "and", "or", "min", "max", "(", ")", "[", "]", ";", ",", "+", "-", "*", "/", "<",
        ">", "=", "<=", ">=", "x0", "x1", "h0", "0", "1", "7", "61", "999999", "1234567", "abcdefghijk", "A", "?"};

    private final Checks checks = new Checks();
    private final Random random;
    private int stretches;
    private int horses;
    private int logs;
    private final long[] seen = new long[6];
    private final int[] errors = new int[6];

    private ModelTest(long seed) {
        random = new Random(seed);
    }

    public static void main(String[] args) {
        ModelTest test = new ModelTest(args.length > 0 ? Long.parseLong(args[0]) : 20261119L);
        for (int i = 0; i < RUNS; i++) {
            test.run(i);
        }
        for (int i = 0; i < LISTS; i++) {
            test.list(i);
        }
        test.checks.isTrue("the runs saw enough", test.sawEnough());
        test.checks.end();
    }

    /** Else a change of the generator could make the comparison empty without being seen. */
    private boolean sawEnough() {
        boolean enough = true;
        for (long number : seen) {
            enough &= number >= 50;
        }
        for (int number : errors) {
            enough &= number >= 100;
        }
        if (!enough) {
            System.out.println(java.util.Arrays.toString(seen) + " " + java.util.Arrays.toString(errors));
        }
        return enough;
    }

    // ---- runs of calls

    private void run(int run) {
        FjordHaul x = new FjordHaul();
        Model y = new Model();
        String text = lists();
        write(x, y, text);
        checks.due("run " + run + " teach of " + text, x.teach(), y.teach());
        for (int call = 0; call < CALLS; call++) {
            String made = "run " + run + " call " + call;
            ask(made, x, y, text);
            checks.due(made + " digest", x.digest(), y.digest());
        }
        seen[0] += y.count(7);
        seen[1] += y.count(8);
        seen[2] += y.count(11);
        seen[3] += y.count(9);
    }

    private static void write(FjordHaul x, Model y, String text) {
        Checks.write(x, text);
        for (byte b : Checks.bytes(text)) {
            y.tape.add(b);
        }
    }

    private void ask(String made, FjordHaul x, Model y, String text) {
        int what = random.nextInt(20);
        int h = upTo(horses);
        int s = upTo(stretches);
        int l = upTo(logs);
        int n = random.nextInt(12) == 0 ? random.nextInt(5) - 2 : 1 + random.nextInt(15);
        int far = random.nextInt(8) == 0 ? 78 + random.nextInt(5) : 1 + random.nextInt(60);
        int fact = random.nextInt(15) - 1;
        switch (what) {
            case 0: same(made + " count " + fact, () -> x.count(fact), () -> y.count(fact)); break;
            case 1: same(made + " stretch " + s + " " + fact, () -> x.stretch(s, fact), () -> y.stretch(s, fact)); break;
            case 2: same(made + " horse " + h + " " + fact, () -> x.horse(h, fact), () -> y.horse(h, fact)); break;
            case 3: same(made + " log " + l + " " + fact, () -> x.log(l, fact), () -> y.log(l, fact)); break;
            case 4: same(made + " needs " + h + " " + s, () -> x.needs(h, s), () -> y.needs(h, s)); break;
            case 5: case 6: {
                int w = random.nextInt(9) - 4;
                same(made + " setWeather " + w, () -> x.setWeather(w), () -> y.setWeather(w));
                break;
            }
            case 7: same(made + " forge " + h + " " + n, () -> x.forge(h, n), () -> y.forge(h, n)); break;
            case 8: same(made + " clear " + s, () -> x.clear(s), () -> y.clear(s)); break;
            case 9: same(made + " arrives " + l, () -> x.arrives(l), () -> y.arrives(l)); break;
            case 10: same(made + " breaks " + h, () -> x.breaks(h), () -> y.breaks(h)); break;
            case 11: {
                int hours = random.nextInt(6) == 0 ? 118 + random.nextInt(5) : n;
                int which = random.nextInt(6) - 1;
                same(made + " foresee " + hours + " " + which, () -> x.foresee(hours, which),
                        () -> y.foresee(hours, which));
                break;
            }
            case 12: seen[4] += same(made + " advise " + far, () -> x.advise(far), () -> y.advise(far)) > -3 ? 1 : 0; break;
            case 13: seen[5] += same(made + " choose " + far, () -> x.choose(far), () -> y.choose(far)) >= 0 ? 1 : 0; break;
            case 14:
                checks.dueDouble(made + " mean", x.mean(), y.mean());
                if (random.nextInt(4) == 0) {
                    String next = random.nextBoolean() ? text : mutated(text);
                    write(x, y, next);
                    same(made + " teach " + next, () -> x.teach(), () -> y.teach());
                    same(made + " errorAt " + next, () -> x.errorAt(), () -> y.errorAt);
                }
                break;
            case 15: {
                int a = random.nextInt();
                same(made + " feed", () -> x.feed(a, ~a, 5, -1, a * 3), () -> y.feed(a, ~a, 5, -1, a * 3));
                int keep = random.nextInt(25) - 1;
                same(made + " trim " + keep, () -> x.trim(keep), () -> y.trim(keep));
                same(made + " trim 0", () -> x.trim(0), () -> y.trim(0));
                break;
            }
            default:
                int hours = random.nextInt(9) == 0 ? 119 + random.nextInt(3) : random.nextInt(3) == 0 ? n : 1;
                same(made + " pass " + hours, () -> x.pass(hours), () -> y.pass(hours));
                break;
        }
    }

    private int upTo(int bound) {
        return random.nextInt(15) == 0 ? random.nextInt(40) - 20 : bound == 0 ? 0 : random.nextInt(bound);
    }

    private long same(String what, Checks.Call one, Checks.Call other) {
        long got = answer(one);
        checks.due(what, got, answer(other));
        return got;
    }

    /** An exception is told as a number that no call answers. */
    private static long answer(Checks.Call call) {
        try {
            return call.run();
        } catch (RuntimeException e) {
            return Long.MIN_VALUE + e.getClass().getName().hashCode();
        }
    }

    // ---- lists that are wrong

    private void list(int number) {
        FjordHaul x = new FjordHaul();
        Model y = new Model();
        String text = number % 40 == 0 ? many() : number % 40 == 1 ? deep() : number % 10 == 3 ? crowded() : number % 2 == 0 ? swapped(lists()) : mutated(lists());
        if (text.length() > 1990) {
            text = text.substring(0, 1990);
        }
        write(x, y, text);
        int want = y.teach();
        errors[want]++;
        checks.due("list teach: " + text, x.teach(), want);
        checks.due("list errorAt: " + text, x.errorAt(), y.errorAt);
        checks.due("list digest: " + text, x.digest(), y.digest());
    }

    /** Numbers and names are others, so that the list mostly is one, but a wrong one. */
    private String swapped(String text) {
        String[] tokens = text.split(" ");
        int changes = 1 + random.nextInt(3);
        for (int i = 0; i < 40 && changes > 0; i++) {
            int at = random.nextInt(tokens.length);
            if (tokens[at].matches("[0-9]+")) {
                tokens[at] = String.valueOf(random.nextInt(102));
                changes--;
            } else if (tokens[at].matches("[xh][0-9]+")) {
                tokens[at] = (random.nextBoolean() ? "x" : "h") + random.nextInt(8);
                changes--;
            }
        }
        return String.join(" ", tokens);
    }

    private String mutated(String text) {
        StringBuilder changed = new StringBuilder(text);
        int changes = 1 + random.nextInt(2);
        for (int i = 0; i < changes; i++) {
            int at = changed.length() == 0 ? 0 : random.nextInt(changed.length());
            int blank = changed.indexOf(" ", at);
            int end = blank < 0 ? changed.length() : changed.indexOf(" ", blank + 1);
            end = end < 0 ? changed.length() : end;
            blank = blank < 0 ? at : blank;
            String token = " " + TOKENS[random.nextInt(TOKENS.length)] + " ";
            switch (random.nextInt(6)) {
                case 0: changed.replace(blank, end, ""); break;
                case 1: changed.replace(blank, end, token); break;
                case 2: changed.insert(blank, token); break;
                case 3: changed.insert(at, (char) random.nextInt(256)); break;
                case 4: changed.setLength(at); break;
                default: changed.insert(blank, " " + random.nextInt(130) + " "); break;
            }
        }
        return changed.toString();
    }

    /** About 400 tokens. */
    private String many() {
        StringBuilder text = new StringBuilder("horse h pull 1 links 1 iron 1;haul h with 1");
        int more = 190 + random.nextInt(6);
        for (int i = 0; i < more; i++) {
            text.append(i % 7 == 0 ? " +\n1" : "+1");
        }
        return text.append(random.nextInt(4) == 0 ? " + x ;" : ";").append(random.nextBoolean() ? " " : "").toString();
    }

    /** About as deep as may be. */
    private String deep() {
        StringBuilder text = new StringBuilder("horse h pull 1 links 1 iron 1;haul h with 1 when ");
        int depth = 6 + random.nextInt(4);
        StringBuilder close = new StringBuilder();
        boolean inSum = false;
        for (int i = 0; i < depth; i++) {
            inSum |= random.nextInt(3) == 0;
            int way = random.nextInt(inSum ? 4 : 2);
            if (inSum) {
                text.append(way == 0 ? "-" : way == 1 ? "(" : way == 2 ? "min(" : "3*max(");
                close.insert(0, way == 0 ? "" : way == 1 ? ")" : ", 1)");
            } else {
                text.append(way == 0 ? "not " : "[");
                close.insert(0, way == 0 ? "" : "]");
            }
        }
        int split = close.indexOf("]");
        split = split < 0 ? close.length() : split;
        return text.append("1").append(close, 0, split).append(" < 2").append(close.substring(split)).append(";").toString();
    }

    /** About as many of one sort as may be told. */
    private String crowded() {
        StringBuilder text = new StringBuilder("stretch a long 1 slope 0 frost 0;horse a pull 1 links 1 iron 1;");
        int sort = random.nextInt(5);
        int most = new int[] {7, 5, 20, 12, 12}[sort] + random.nextInt(3) - 1;
        for (int i = 0; i < most; i++) {
            switch (sort) {
                case 0: text.append("stretch b").append(i).append(" long 1 slope 0 frost 0;"); break;
                case 1: text.append("horse b").append(i).append(" pull 1 links 1 iron 1;"); break;
                case 2: text.append("log b").append(i).append(" weight 1;"); break;
                case 3: text.append("haul a with 1;"); break;
                default: text.append("wait a at a when 1<2;"); break;
            }
        }
        return random.nextBoolean() ? text.toString() : mutated(text.toString());
    }

    // ---- lists that are right

    private String lists() {
        StringBuilder text = new StringBuilder();
        stretches = random.nextInt(12) == 0 ? random.nextInt(9) : 1 + random.nextInt(4);
        horses = random.nextInt(12) == 0 ? 0 : 1 + random.nextInt(6);
        logs = random.nextInt(21);
        for (int i = 0; i < stretches; i++) {
            text.append(" stretch x").append(i).append(" long ").append(1 + random.nextInt(random.nextBoolean() ? 3 : 9))
                    .append(random.nextInt(3) == 0 ? " slope - " : " slope ").append(random.nextInt(random.nextBoolean() ? 3 : 10))
                    .append(" frost ").append(random.nextInt(10)).append(" ;");
        }
        for (int i = 0; i < horses; i++) {
            boolean strong = random.nextInt(3) > 0;
            text.append(" horse ").append(horseName(i)).append(" pull ").append(strong ? 30 + random.nextInt(70) : 1 + random.nextInt(50))
                    .append(" links ").append(1 + random.nextInt(9))
                    .append(" iron ").append(strong ? 30 + random.nextInt(70) : 1 + random.nextInt(60))
                    .append(random.nextBoolean() ? " bell ;" : ";");
        }
        for (int i = 0; i < logs; i++) {
            text.append(" log x").append(i).append(" weight ").append(1 + random.nextInt(random.nextBoolean() ? 15 : 60)).append(" ;");
        }
        if (horses == 0) {
            return text.toString();
        }
        int hauls = random.nextInt(8) + random.nextInt(5);
        for (int i = 0; i < hauls && text.length() < 1400; i++) {
            text.append(" haul ").append(horseName(random.nextInt(horses))).append(" with ");
            if (random.nextBoolean()) {
                text.append(5 + random.nextInt(70)).append(random.nextBoolean() ? " + " : " - ");
            }
            sum(text, 3);
            if (random.nextInt(3) == 0) {
                text.append(" when ");
                test(text, 3);
            }
            text.append(" ;");
        }
        int waits = stretches == 0 ? 0 : random.nextInt(5) * random.nextInt(2);
        for (int i = 0; i < waits && text.length() < 1700; i++) {
            text.append(" wait ").append(horseName(random.nextInt(horses)))
                    .append(" at x").append(random.nextInt(stretches)).append(" when ");
            test(text, 3);
            text.append(" ;");
        }
        return text.toString();
    }

    /** The names of the first horses are those of stretches too. */
    private static String horseName(int horse) {
        return horse < 3 ? "x" + horse : "h" + horse;
    }

    private void test(StringBuilder text, int parts) {
        int way = random.nextInt(8);
        if (parts > 0 && way < 2) {
            test(text, parts - 1);
            text.append(way == 0 ? " and " : " or ");
            test(text, parts - 1);
        } else if (parts > 0 && way == 2) {
            text.append(" not ");
            test(text, parts - 2);
        } else if (parts > 0 && way == 3) {
            text.append(" [ ");
            test(text, parts - 1);
            text.append(" ] ");
        } else {
            sum(text, parts - 1);
            text.append(List.of(" < ", " > ", " = ", " <= ", " >= ").get(random.nextInt(5)));
            sum(text, parts - 1);
        }
    }

    private void sum(StringBuilder text, int parts) {
        int way = parts > 0 ? random.nextInt(11) : 8;
        if (way < 4) {
            sum(text, parts - 1);
            text.append(List.of(" + ", " - ", " * ", " / ").get(way));
            sum(text, parts - 1);
        } else if (way == 4) {
            text.append(" ( ");
            sum(text, parts - 1);
            text.append(" ) ");
        } else if (way == 5) {
            text.append(" - ");
            sum(text, 0);
        } else if (way == 6) {
            text.append(random.nextBoolean() ? " min ( " : " max ( ");
            sum(text, parts - 1);
            text.append(" , ");
            sum(text, parts - 1);
            text.append(" ) ");
        } else {
            value(text);
        }
    }

    private void value(StringBuilder text) {
        List<String> words = new ArrayList<>(List.of("hour", "weather", "pile", "raft"));
        for (int i = 0; i < 8; i++) {
            words.add(String.valueOf(random.nextInt(i < 6 ? 40 : 1000000)));
        }
        for (String sort : List.of("tired ", "load ", "links ")) {
            words.add(sort + horseName(random.nextInt(horses)));
        }
        if (stretches > 0) {
            words.add("frost x" + random.nextInt(stretches));
            words.add("fallen x" + random.nextInt(stretches));
        }
        text.append(words.get(random.nextInt(words.size())));
    }
}
