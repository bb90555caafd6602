/**
 * The promises 1 to 21, sentence by sentence: of each that names a boundary case the last that is taken, the first that
 * is not, and, of a refused call, that nothing has changed. (Promises 2 to 5 as far as they are no matter of the
 * language, which LanguageBoundsTest looks at.)
 */
public final class CallBoundsTest {
    private static final Class<IndexOutOfBoundsException> INDEX = IndexOutOfBoundsException.class;
    private static final Class<IllegalArgumentException> ARGUMENT = IllegalArgumentException.class;
    private static final int[] FAR = {Integer.MIN_VALUE, Integer.MIN_VALUE + 1, -65536, -256, 256, 65536, Integer.MAX_VALUE};
    private static final String STRONG = "horse h pull 99 links 9 iron 99";
    private static final Twins.Maker[] MAKERS = {Twins::fresh, Twins::busy, Twins::full};
    private static final Checks checks = new Checks();
    private static final Twins twins = new Twins(checks);

    private interface OneNumber {
        long on(FjordHaul x, int number);
    }

    public static void main(String[] args) {
        aNewObject();
        feedHighestByteFirst();
        trimFrom0ToAll();
        count0To12();
        stretchFacts0To4();
        horseFacts0To9();
        logFacts0To3();
        needsOfAHorseAndAStretch();
        weatherFrom3LessTo3();
        forge1To9();
        forgeAtMost9();
        theFirstNamedIsThrown();
        clearAllThere();
        pass1To120();
        passTellsWhatComes();
        arrives0To200();
        arrivesOfALog();
        breaks1To200();
        breaksOfAHorse();
        foresee1To120();
        foresee0To3();
        advise1To80();
        adviseTheLeast();
        choose1To80();
        choose10More();
        meanOfNone();
        digestOfAll();
        askingChangesNothing();
        itIsUsedFor512Calls();
        checks.end();
    }

    /** Refused for these numbers and for those far away, by each of the makers' objects. */
    private static void refused(String name, Class<? extends RuntimeException> want, OneNumber call, int... numbers) {
        for (Twins.Maker maker : MAKERS) {
            refusedBy(maker, name, want, call, numbers);
        }
    }

    private static void refusedBy(Twins.Maker maker, String name, Class<? extends RuntimeException> want, OneNumber call, int... numbers) {
        for (int number : numbers) {
            twins.refuses(name + " " + number, want, maker, x -> call.on(x, number));
        }
        for (int number : FAR) {
            twins.refuses(name + " " + number, want, maker, x -> call.on(x, number));
        }
    }

    // ---- Promise 1: "a road without stretches, horses and logs, in the hour 0"

    private static void aNewObject() {
        for (int what = 0; what < 13; what++) {
            int which = what;
            twins.only("count " + what, 0, Twins::fresh, x -> x.count(which));
        }
        refusedBy(Twins::fresh, "stretch of none", INDEX, (x, n) -> x.stretch(n, 0), 0, 1, -1);
        refusedBy(Twins::fresh, "horse of none", INDEX, (x, n) -> x.horse(n, 0), 0, 1, -1);
        refusedBy(Twins::fresh, "log of none", INDEX, (x, n) -> x.log(n, 0), 0, 1, -1);
        refusedBy(Twins::fresh, "needs of none", INDEX, (x, n) -> x.needs(n, 0), 0, 1, -1);
        refusedBy(Twins::fresh, "forge of none", INDEX, (x, n) -> x.forge(n, 1), 0, 1, -1);
        refusedBy(Twins::fresh, "clear of none", INDEX, (x, n) -> x.clear(n), 0, 1, -1);
        refusedBy(Twins::fresh, "arrives of none", INDEX, (x, n) -> x.arrives(n), 0, 1, -1);
        refusedBy(Twins::fresh, "breaks of none", INDEX, (x, n) -> x.breaks(n), 0, 1, -1);
        twins.only("foresee of none", 0, Twins::fresh, x -> x.foresee(120, 0));
        twins.only("fallen of none", 0, Twins::fresh, x -> x.foresee(120, 1));
        twins.only("broken of none", 0, Twins::fresh, x -> x.foresee(120, 2));
        twins.only("pile of none", 0, Twins::fresh, x -> x.foresee(120, 3));
        twins.only("advise of none", -3, Twins::fresh, x -> x.advise(80));
        twins.only("choose of none", -1, Twins::fresh, x -> x.choose(80));
        twins.only("teach of nothing", 0, Twins::fresh, FjordHaul::teach);
        FjordHaul x = new FjordHaul();
        checks.due("pass of none", x.pass(120), 0);
        checks.due("the hour", x.count(0), 120);
        FjordHaul y = new FjordHaul();
        checks.due("two objects have nothing in common", y.count(0), 0);
    }

    // ---- Promise 2: "the four bytes of each number, the highest one first"

    private static void feedHighestByteFirst() {
        String text = "log abcdefg weight  60;log hijklmn weight 7 ;";
        for (int shift = 0; shift < 4; shift++) {
            FjordHaul x = new FjordHaul();
            Checks.write(x, " ".repeat(shift) + text);
            checks.due("text moved by " + shift, x.teach(), 0);
            checks.due("first weight", x.log(0, 0), 60);
            checks.due("second weight", x.log(1, 0), 7);
        }
        // Each byte by itself: it is the first that is no blank, and no token begins with it.
        for (int place = 0; place < 20; place++) {
            for (int b : new int[] {0x80, 0xff, 0x7f, 0x00}) {
                int[] numbers = {0x20202020, 0x20202020, 0x20202020, 0x20202020, 0x20202020};
                int shift = 24 - place % 4 * 8;
                numbers[place / 4] = numbers[place / 4] & ~(255 << shift) | b << shift;
                FjordHaul x = new FjordHaul();
                checks.due("feed", x.feed(numbers[0], numbers[1], numbers[2], numbers[3], numbers[4]), 20);
                checks.due("byte " + b + " at " + place, x.teach(), 1);
                checks.due("its position", x.errorAt(), place);
            }
        }
        FjordHaul x = new FjordHaul();
        x.feed(-1, -1, -1, -1, -1);
        checks.due("bytes of 255", x.teach(), 1);
        checks.due("their position", x.errorAt(), 0);
    }

    // ---- Promise 3: "if n is not 0 to the number of bytes of the tape"

    private static void trimFrom0ToAll() {
        refusedBy(Twins::fresh, "trim of 0", ARGUMENT, (x, n) -> x.trim(n), -1, 1, 20, 2000);
        int bytes = Twins.busy().count(12);
        refusedBy(Twins::busy, "trim of " + bytes, ARGUMENT, (x, n) -> x.trim(n), -1, bytes + 1, 2000);
        for (int n : new int[] {Integer.MIN_VALUE, -1, 2001, 2002, 65536, Integer.MAX_VALUE}) {
            twins.refuses("trim of 2000 to " + n, ARGUMENT, Twins::full, x -> x.trim(n));
        }
        twins.only("trim to all", bytes, Twins::busy, x -> x.trim(bytes));
        twins.only("trim to all of nothing", 0, Twins::fresh, x -> x.trim(0));
        twins.only("trim to all of 2000", 2000, Twins::full, x -> x.trim(2000));
        for (int n = 0; n <= 15; n++) {
            FjordHaul x = new FjordHaul();
            Checks.write(x, "log a weight 1;");
            checks.due("trim to " + n, x.trim(n), n);
            checks.due("bytes", x.count(12), n);
            checks.raises(x, "trim to one more", ARGUMENT, () -> x.trim(x.count(12) + 1));
            checks.due("teach of " + n, x.teach(), n == 0 || n == 15 ? 0 : 1);
        }
        FjordHaul x = new FjordHaul();
        Checks.write(x, "log a weight 1;log a weight 2;");
        x.trim(15);
        Checks.write(x, "log b weight 3;");
        checks.due("only the first bytes are kept", x.teach(), 0);
        checks.due("what is fed comes behind them", x.log(1, 0), 3);
    }

    // ---- Promises 6 to 9: "if there is no such ..., or what is not 0 to ..."

    private static void count0To12() {
        refused("count", INDEX, (x, n) -> x.count(n), -1, 13, 14);
        // The road of busy, with a list on the tape behind it, and hours and weather of its own.
        int[] wants = {10, -2, 3, 3, 8, 116, 20, 1, 2, 2, 7, 1, Twins.NEXT.length()};
        for (int what = 0; what < 13; what++) {
            int which = what;
            twins.only("count " + what, wants[what], Twins::busy, x -> x.count(which));
        }
    }

    private static void stretchFacts0To4() {
        refused("stretch fact", INDEX, (x, n) -> x.stretch(0, n), -1, 5, 6);
        refusedBy(Twins::busy, "stretch", INDEX, (x, n) -> x.stretch(n, 0), -1, 3, 4, 7);
        refusedBy(Twins::busy, "stretch with its last fact", INDEX, (x, n) -> x.stretch(n, 4), -1, 3);
        refusedBy(Twins::full, "stretch of 8", INDEX, (x, n) -> x.stretch(n, 0), -1, 8);
        int[][] wants = {{2, 0, 0, 0, 2}, {3, 2, 0, 0, 0}, {2, -1, 2, 2, 0}};
        for (int i = 0; i < 15; i++) {
            int s = i / 5;
            int what = i % 5;
            twins.only("stretch " + s + " " + what, wants[s][what], Twins::busy, x -> x.stretch(s, what));
        }
        twins.only("the 8th stretch", 7, Twins::full, x -> x.stretch(7, 1));
    }

    private static void horseFacts0To9() {
        refused("horse fact", INDEX, (x, n) -> x.horse(0, n), -1, 10, 11);
        refusedBy(Twins::busy, "horse", INDEX, (x, n) -> x.horse(n, 0), -1, 3, 4, 5);
        refusedBy(Twins::busy, "horse with its last fact", INDEX, (x, n) -> x.horse(n, 9), -1, 3);
        refusedBy(Twins::full, "horse of 6", INDEX, (x, n) -> x.horse(n, 0), -1, 6);
        int[][] wants = {{60, 3, 40, 1, 2, 0, 0, 0, 13, 20}, {50, 3, 22, 0, 2, 1, 1, 15, 9, 0}, {9, 1, 99, 0, -1, 0, 0, 0, 0, 0}};
        for (int i = 0; i < 30; i++) {
            int h = i / 10;
            int what = i % 10;
            twins.only("horse " + h + " " + what, wants[h][what], Twins::busy, x -> x.horse(h, what));
        }
        twins.only("the 6th horse", 95, Twins::full, x -> x.horse(5, 0));
    }

    private static void logFacts0To3() {
        refused("log fact", INDEX, (x, n) -> x.log(0, n), -1, 4, 5);
        refusedBy(Twins::busy, "log", INDEX, (x, n) -> x.log(n, 0), -1, 8, 9, 19);
        refusedBy(Twins::busy, "log with its last fact", INDEX, (x, n) -> x.log(n, 3), -1, 8);
        refusedBy(Twins::full, "log of 20", INDEX, (x, n) -> x.log(n, 0), -1, 20);
        int[][] wants = {{20, 3, -1, 9}, {19, 2, 0, -1}, {8, 1, 1, -1}, {30, 0, -1, -1}};
        for (int i = 0; i < 16; i++) {
            int l = i / 4;
            int what = i % 4;
            twins.only("log " + l + " " + what, wants[l][what], Twins::busy, x -> x.log(l, what));
        }
        twins.only("the 20th log", 20, Twins::full, x -> x.log(19, 0));
    }

    // ---- Promise 10: "if there is no such horse or stretch"

    private static void needsOfAHorseAndAStretch() {
        refusedBy(Twins::busy, "needs of a horse", INDEX, (x, n) -> x.needs(n, 0), -1, 3, 5);
        refusedBy(Twins::busy, "needs of a stretch", INDEX, (x, n) -> x.needs(0, n), -1, 3, 7);
        refusedBy(Twins::full, "needs of a horse of 6", INDEX, (x, n) -> x.needs(n, 7), -1, 6);
        refusedBy(Twins::full, "needs of a stretch of 8", INDEX, (x, n) -> x.needs(5, n), -1, 8);
        FjordHaul noStretch = Checks.taught(STRONG + ";");
        checks.raises(noStretch, "needs without a stretch", INDEX, () -> noStretch.needs(0, 0));
        FjordHaul noHorse = Checks.taught("stretch s long 1 slope 0 frost 0;");
        checks.raises(noHorse, "needs without a horse", INDEX, () -> noHorse.needs(0, 0));
        int[] wants = {15, 18, 11};
        for (int s = 0; s < 3; s++) {
            int stretch = s;
            twins.only("needs of nothing on " + s, 0, Twins::busy, x -> x.needs(0, stretch));
            twins.only("needs of 15 on " + s, wants[s], Twins::busy, x -> x.needs(1, stretch));
        }
        twins.only("needs of the last of the last", 37 * 17 / 10 - 9, Twins::full, x -> x.needs(5, 7));
    }

    // ---- Promise 11: "if weather is not -3 to 3"

    private static void weatherFrom3LessTo3() {
        refused("setWeather", ARGUMENT, (x, n) -> x.setWeather(n), -5, -4, 4, 5);
        for (int weather = -3; weather <= 3; weather++) {
            int next = weather;
            FjordHaul x = new FjordHaul();
            checks.due("the weather before", x.setWeather(weather), 0);
            checks.due("the weather", x.count(1), weather);
            checks.raises(x, "setWeather 4", ARGUMENT, () -> x.setWeather(next < 0 ? -4 : 4));
            checks.due("the weather still", x.count(1), weather);
            for (int then = -3; then <= 3; then++) {
                checks.due("the weather before " + then, x.setWeather(then), then == -3 ? weather : then - 1);
            }
        }
        twins.only("the same weather again", -2, Twins::busy, x -> x.setWeather(-2));
        twins.only("the same most weather again", 3, Twins::full, x -> x.setWeather(3));
    }

    // ---- Promise 12: "if there is no such horse", "if links is not 1 to 9", "at most 9"

    private static void forge1To9() {
        refusedBy(Twins::busy, "forge of a horse", INDEX, (x, n) -> x.forge(n, 1), -1, 3, 5);
        refusedBy(Twins::full, "forge of a horse of 6", INDEX, (x, n) -> x.forge(n, 9), -1, 6);
        refusedBy(Twins::busy, "forge links", ARGUMENT, (x, n) -> x.forge(0, n), -9, -1, 0, 10, 11);
        refusedBy(Twins::full, "forge links of the last", ARGUMENT, (x, n) -> x.forge(5, n), -1, 0, 10);
        for (int links = 1; links <= 9; links++) {
            FjordHaul x = Checks.taught("horse h pull 1 links 1 iron 1;horse g pull 1 links 2 iron 1;");
            checks.due("forge " + links, x.forge(0, links), Math.min(9, 1 + links));
            checks.due("links", x.horse(0, 1), Math.min(9, 1 + links));
            checks.due("of the other", x.horse(1, 1), 2);
            checks.due("of all", x.count(10), 2 + Math.min(9, 1 + links));
        }
    }

    private static void forgeAtMost9() {
        for (int has = 1; has <= 9; has++) {
            for (int links = 1; links <= 9; links++) {
                FjordHaul x = Checks.taught("horse h pull 1 links " + has + " iron 1;");
                checks.due(has + " and " + links, x.forge(0, links), has + links > 9 ? 9 : has + links);
            }
        }
        twins.only("forge onto 9", 9, Twins::full, x -> x.forge(5, 1));
        twins.only("forge most onto 9", 9, Twins::full, x -> x.forge(5, 9));
        FjordHaul none = Checks.taught(Checks.road("1 0 0", "horse h pull 99 links 1 iron 1", "log a weight 9", "haul h with 9"));
        none.pass(2);
        checks.due("without links", none.horse(0, 1), 0);
        checks.raises(none, "forge 0 onto none", ARGUMENT, () -> none.forge(0, 0));
        checks.due("forge 9 onto none", none.forge(0, 9), 9);
    }

    // ---- "If several exceptions apply, the one that is named first is thrown."

    private static void theFirstNamedIsThrown() {
        int[] wrongHorses = {-1, 3, Integer.MIN_VALUE, Integer.MAX_VALUE};
        int[] wrongLinks = {-1, 0, 10, Integer.MIN_VALUE, Integer.MAX_VALUE};
        for (int horse : wrongHorses) {
            for (int links : wrongLinks) {
                twins.refuses("forge " + horse + " " + links, INDEX, Twins::busy, x -> x.forge(horse, links));
            }
        }
        int[] wrongHours = {-1, 0, 121, Integer.MIN_VALUE, Integer.MAX_VALUE};
        int[] wrongWhats = {-1, 4, Integer.MIN_VALUE, Integer.MAX_VALUE};
        for (int hours : wrongHours) {
            for (int what : wrongWhats) {
                twins.refuses("foresee " + hours + " " + what, ARGUMENT, Twins::busy, x -> x.foresee(hours, what));
            }
        }
        twins.refuses("forge of nobody", INDEX, Twins::fresh, x -> x.forge(0, 0));
        twins.refuses("foresee of nothing", ARGUMENT, Twins::fresh, x -> x.foresee(0, 4));
        twins.refuses("needs of both", INDEX, Twins::busy, x -> x.needs(-1, 3));
        twins.refuses("stretch of both", INDEX, Twins::busy, x -> x.stretch(3, 5));
        twins.refuses("horse of both", INDEX, Twins::busy, x -> x.horse(3, 10));
        twins.refuses("log of both", INDEX, Twins::busy, x -> x.log(8, 4));
    }

    // ---- Promise 13: "all logs that are fallen on a stretch"

    private static void clearAllThere() {
        refusedBy(Twins::busy, "clear", INDEX, (x, n) -> x.clear(n), -1, 3, 7);
        refusedBy(Twins::full, "clear of 8", INDEX, (x, n) -> x.clear(n), -1, 8);
        twins.only("clear without fallen ones", 0, Twins::busy, x -> x.clear(1));
        twins.only("clear without fallen ones, the last", 0, Twins::busy, x -> x.clear(2));
        FjordHaul x = Twins.busy();
        checks.due("clear", x.clear(0), 2);
        checks.due("none is left", x.stretch(0, 4), 0);
        checks.due("fallen", x.count(8), 0);
        checks.due("the pile", x.count(5), 116 + 19 + 5);
        for (int l : new int[] {1, 4}) {
            checks.due("state of " + l, x.log(l, 1), 0);
            checks.due("place of " + l, x.log(l, 2), -1);
            checks.due("hour of " + l, x.log(l, 3), -1);
        }
        checks.due("one at the raft stays", x.log(0, 1), 3);
        checks.due("its hour stays", x.log(0, 3), 9);
        checks.due("those on a sledge stay", x.log(2, 1), 1);
        checks.due("clear again", x.clear(0), 0);
        checks.due("chains that broke", x.count(11), 1);
        FjordHaul full = Twins.full();
        int[] wants = {5, 0, 3, 0, 5, 0, 0, 0};
        for (int s = 0; s < 8; s++) {
            checks.due("clear of " + s, full.clear(s), wants[s]);
        }
        FjordHaul five = Checks.taught(Checks.road("9 0 0", "horse h pull 99 links 1 iron 4", "log a weight 1", "log b weight 1",
                "log c weight 1", "log d weight 1", "log e weight 1", "log f weight 1", "haul h with 9"));
        five.pass(2);
        checks.due("five fallen", five.clear(0), 5);
        checks.due("six in the pile", five.count(5), 6);
    }

    // ---- Promise 14: "if hours is not 1 to 120"

    private static void pass1To120() {
        refused("pass", ARGUMENT, (x, n) -> x.pass(n), -1, 0, 121, 122);
        for (int hours : new int[] {1, 2, 119, 120}) {
            FjordHaul x = Twins.busy();
            FjordHaul y = Twins.busy();
            int weight = 0;
            for (int hour = 0; hour < hours; hour++) {
                weight += y.pass(1);
            }
            checks.due("pass " + hours, x.pass(hours), weight);
            checks.due("the hour behind " + hours, x.count(0), 10 + hours);
            checks.due("the same as one by one", x.digest(), y.digest());
        }
    }

    /** A log that comes in the hour 119 (behind 120 of them) or 120. */
    private static void passTellsWhatComes() {
        FjordHaul x = comesBehind(120);
        checks.due("pass 119", x.pass(119), 0);
        checks.due("in the next hour", x.pass(1), 7);
        checks.due("the hour in which it came", x.log(0, 3), 119);
        checks.due("only what comes in them", x.pass(120), 0);
        FjordHaul y = comesBehind(120);
        checks.due("pass 120", y.pass(120), 7);
        FjordHaul z = comesBehind(121);
        checks.due("pass 120 of 121", z.pass(120), 0);
        checks.due("pass 1 of 121", z.pass(1), 7);
    }

    /** The log 0 is at the raft behind so many hours, 2 or more. */
    private static FjordHaul comesBehind(int hours) {
        return Checks.taught(Checks.road("1 0 0", STRONG, "log a weight 7", "log b weight 60", "haul h with 7 when hour = " + (hours - 2)));
    }

    // ---- Promise 15: "0 if it is, at most 200; -1 if not by then"

    private static void arrives0To200() {
        for (int hours : new int[] {2, 3, 120, 121, 199, 200}) {
            twins.only("arrives behind " + hours, hours, () -> comesBehind(hours), x -> x.arrives(0));
        }
        for (int hours : new int[] {201, 202, 250, 400}) {
            twins.only("arrives behind " + hours, -1, () -> comesBehind(hours), x -> x.arrives(0));
        }
        FjordHaul x = comesBehind(201);
        x.pass(1);
        checks.due("an hour later", x.arrives(0), 200);
        x.pass(120);
        x.pass(78);
        checks.due("in two", x.arrives(0), 2);
        x.pass(1);
        checks.due("in one", x.arrives(0), 1);
        x.pass(1);
        checks.due("it is", x.arrives(0), 0);
        checks.due("it comes as it is told", x.log(0, 1), 3);
        x.pass(120);
        checks.due("it still is", x.arrives(0), 0);
    }

    private static void arrivesOfALog() {
        refusedBy(Twins::busy, "arrives", INDEX, (x, n) -> x.arrives(n), -1, 8, 19);
        refusedBy(Twins::full, "arrives of 20", INDEX, (x, n) -> x.arrives(n), -1, 20);
        int[] wants = {0, -1, 1, -1, -1, -1, 1};
        for (int l = 0; l < wants.length; l++) {
            int log = l;
            twins.only("arrives " + l, wants[l], Twins::busy, x -> x.arrives(log));
        }
        twins.only("arrives of one that nobody hauls", -1, () -> comesBehind(2), x -> x.arrives(1));
        FjordHaul fallen = Twins.busy();
        fallen.clear(0);
        checks.isTrue("one that is not fallen any more is hauled", fallen.arrives(1) > 0);
    }

    // ---- Promise 16: "for the first time from now on ... at most 200; -1 if it does not by then"

    /** The chain of horse 0 breaks behind so many hours, 2 or more, and again 3 hours later. */
    private static FjordHaul breaksBehind(int hours) {
        return Checks.taught(Checks.road("1 0 0", "horse h pull 99 links 2 iron 8", "horse g pull 99 links 2 iron 9", "log a weight 9",
                "log b weight 9", "log c weight 9", "haul h with 9 when hour >= " + (hours - 2), "haul g with 9 when hour = 0"));
    }

    private static void breaks1To200() {
        for (int hours : new int[] {2, 3, 120, 121, 199, 200}) {
            twins.only("breaks behind " + hours, hours, () -> breaksBehind(hours), x -> x.breaks(0));
        }
        for (int hours : new int[] {201, 202, 250, 400}) {
            twins.only("breaks behind " + hours, -1, () -> breaksBehind(hours), x -> x.breaks(0));
        }
        FjordHaul x = breaksBehind(201);
        x.pass(1);
        checks.due("an hour later", x.breaks(0), 200);
        x.pass(120);
        x.pass(79);
        checks.due("in one", x.breaks(0), 1);
        x.pass(1);
        checks.due("it broke as it is told", x.horse(0, 1), 1);
        checks.due("the first time from now on", x.breaks(0), 3);
        x.pass(3);
        checks.due("without links no more", x.horse(0, 1), 0);
        checks.due("so it breaks no more", x.breaks(0), -1);
    }

    private static void breaksOfAHorse() {
        refusedBy(Twins::busy, "breaks", INDEX, (x, n) -> x.breaks(n), -1, 3, 5);
        refusedBy(Twins::full, "breaks of 6", INDEX, (x, n) -> x.breaks(n), -1, 6);
        twins.only("breaks of a stronger one", -1, () -> breaksBehind(2), x -> x.breaks(1));
        twins.only("breaks of the other", 4, () -> breaksBehind(4), x -> x.breaks(0));
    }

    // ---- Promise 17: "hours: how many, 1 to 120", "what is not 0 to 3"

    private static void foresee1To120() {
        refused("foresee hours", ARGUMENT, (x, n) -> x.foresee(n, 0), -1, 0, 121, 122);
        refused("foresee hours with the last", ARGUMENT, (x, n) -> x.foresee(n, 3), -1, 0, 121);
        for (int hours : new int[] {2, 3, 119, 120}) {
            twins.only("foresee just " + hours, 7, () -> comesBehind(hours), x -> x.foresee(hours, 0));
            twins.only("foresee less than " + hours, 0, () -> comesBehind(hours), x -> x.foresee(hours - 1, 0));
            twins.only("the pile just in " + hours, 60, () -> comesBehind(hours), x -> x.foresee(hours - 1, 3));
        }
        twins.only("foresee 120 of 121", 0, () -> comesBehind(121), x -> x.foresee(120, 0));
        twins.only("foresee 1", 60, () -> comesBehind(2), x -> x.foresee(1, 3));
        twins.only("foresee 1 of 3", 67, () -> comesBehind(3), x -> x.foresee(1, 3));
    }

    private static void foresee0To3() {
        refused("foresee what", INDEX, (x, n) -> x.foresee(1, n), -1, 4, 5);
        refused("foresee what in 120", INDEX, (x, n) -> x.foresee(120, n), -1, 4);
        for (int hours : new int[] {1, 2, 7, 30, 120}) {
            for (Twins.Maker maker : MAKERS) {
                FjordHaul then = maker.make();
                int broken = then.count(11);
                int came = then.pass(hours);
                int[] wants = {came, then.count(8), then.count(11) - broken, then.count(5)};
                for (int what = 0; what < 4; what++) {
                    int which = what;
                    twins.only("foresee " + hours + " " + what, wants[what], maker, x -> x.foresee(hours, which));
                }
            }
        }
        twins.only("chains just in 2", 1, () -> breaksBehind(2), x -> x.foresee(2, 2));
        twins.only("no chain in 1", 0, () -> breaksBehind(2), x -> x.foresee(1, 2));
        twins.only("both times in 5", 2, () -> breaksBehind(2), x -> x.foresee(5, 2));
        twins.only("one time in 4", 1, () -> breaksBehind(2), x -> x.foresee(4, 2));
        twins.only("fallen in 5", 2, () -> breaksBehind(2), x -> x.foresee(5, 1));
    }

    // ---- Promise 18: "if hours is not 1 to 80", "-3 to 3, of several the least"

    /** The horse goes on as soon as the frost is 3 or more: at once only with a weather of 3. */
    private static FjordHaul needsFrost(int hour) {
        return Checks.taught(Checks.road("1 0 0", "horse h pull 6 links 1 iron 99", "log a weight 9", "haul h with 9 when hour = " + hour));
    }

    private static void advise1To80() {
        refused("advise", ARGUMENT, (x, n) -> x.advise(n), -1, 0, 81, 82, 120);
        twins.only("advise 1", -3, () -> needsFrost(0), x -> x.advise(1));
        twins.only("advise 2", 3, () -> needsFrost(0), x -> x.advise(2));
        // A weather of 2 makes a frost of 4 in hour 6, and one of 1 a frost of 3 in hour 12: the horse goes on in the hour behind.
        twins.only("advise 8", 2, () -> needsFrost(0), x -> x.advise(8));
        twins.only("advise 7", 3, () -> needsFrost(0), x -> x.advise(7));
        twins.only("advise 13", 2, () -> needsFrost(0), x -> x.advise(13));
        twins.only("advise 14", 1, () -> needsFrost(0), x -> x.advise(14));
        twins.only("advise 80", 1, () -> needsFrost(78), x -> x.advise(80));
        twins.only("advise 79", -3, () -> needsFrost(78), x -> x.advise(79));
        twins.only("advise 80 of 81", -3, () -> needsFrost(79), x -> x.advise(80));
    }

    private static void adviseTheLeast() {
        for (int w = -3; w <= 3; w++) {
            int best = w;
            twins.only("advise of " + w, w, () -> bestWeather(best, best), x -> x.advise(9));
            for (int other = w; other <= 3; other++) {
                int next = other;
                twins.only("advise of " + w + " and " + other, w, () -> bestWeather(best, next), x -> x.advise(9));
            }
        }
        FjordHaul some = bestWeather(-2, 2);
        some.setWeather(2);
        checks.due("whatever the weather is", some.advise(9), -2);
        checks.due("which stays", some.count(1), 2);
        FjordHaul more = Checks.taught(Checks.road("1 0 0", STRONG, "log a weight 8", "log b weight 7",
                "haul h with 7 when weather = -3", "haul h with 8 when weather = 2 and pile = 15", "haul h with 7 when weather = 1"));
        checks.due("the most weight, not the least weather", more.advise(2), 2);
        checks.due("behind more hours too", more.advise(9), 2);
    }

    /** The horse hauls only with the one weather or with the other. */
    private static FjordHaul bestWeather(int one, int other) {
        return Checks.taught(Checks.road("1 0 0", STRONG, "log a weight 7", "haul h with 7 when weather = 0 + " + one
                + " or weather = 0 + " + other).replace("+ -", "- "));
    }

    // ---- Promise 19: "if hours is not 1 to 80", "an iron of 10 more", "of several the one with the smallest number; -1 if no more is there by any"

    private static FjordHaul needsIron(int more, int hour) {
        return Checks.taught(Checks.road("1 0 0", "horse h pull 99 links 1 iron " + (40 - more), "log a weight 40",
                "haul h with 40 when hour = " + hour));
    }

    private static void choose1To80() {
        refused("choose", ARGUMENT, (x, n) -> x.choose(n), -1, 0, 81, 82, 120);
        twins.only("choose 1", -1, () -> needsIron(10, 0), x -> x.choose(1));
        twins.only("choose 2", 0, () -> needsIron(10, 0), x -> x.choose(2));
        twins.only("choose 79", -1, () -> needsIron(10, 78), x -> x.choose(79));
        twins.only("choose 80", 0, () -> needsIron(10, 78), x -> x.choose(80));
        twins.only("choose 80 of 81", -1, () -> needsIron(10, 79), x -> x.choose(80));
    }

    private static void choose10More() {
        for (int more = -1; more <= 12; more++) {
            int iron = more;
            twins.only("choose with " + more + " to be more", more < 1 || more > 10 ? -1 : 0, () -> needsIron(iron, 0), x -> x.choose(9));
        }
        // "(whatever it is then)": 95 and 10 are 105. A pull of 102 then rests for ever where else the chain breaks, and
        // the horse, on its way back, meets the other, which would bring its log.
        twins.only("an iron of more than 99", 0, () -> Checks.taught(Checks.road("2 0 0,3 7 0", "horse h pull 99 links 1 iron 95",
                "horse g pull 99 links 1 iron 99", "log a weight 60", "log b weight 10", "haul h with 60 when hour = 0",
                "haul g with 10 when hour = 1")), x -> x.choose(40));
        for (int first = 0; first < 6; first++) {
            for (int second = first; second < 6; second++) {
                String text = "stretch s long 1 slope 0 frost 0;";
                for (int h = 0; h < 6; h++) {
                    int iron = h == first || h == second ? 20 : 19;
                    text += "horse h" + h + " pull 99 links 1 iron " + iron + ";log l" + h + " weight 30;haul h" + h + " with 30;";
                }
                String list = text;
                twins.only("choose of " + first + " and " + second, first, () -> Checks.taught(list), x -> x.choose(2));
            }
        }
        FjordHaul most = Checks.taught("stretch s long 1 slope 0 frost 0;horse h pull 99 links 1 iron 20;horse g pull 99 links 1 iron 21;"
                + "log a weight 29;log b weight 30;haul h with 29;haul g with 30;");
        checks.due("the most, not the first", most.choose(2), 1);
        FjordHaul less = Checks.taught("stretch s long 1 slope 0 frost 0;horse h pull 99 links 1 iron 20;horse g pull 99 links 1 iron 20;"
                + "log a weight 30;log b weight 29;haul h with 30;haul g with 29;");
        checks.due("the most, not the last", less.choose(2), 0);
        twins.only("nobody needs more", -1, () -> comesBehind(2), x -> x.choose(80));
    }

    // ---- Promise 20: "0 without any"

    private static void meanOfNone() {
        checks.dueDouble("mean of a new object", new FjordHaul().mean(), 0.0);
        FjordHaul x = Checks.taught(Checks.road("1 0 0", STRONG, "log a weight 10", "log b weight 7", "log c weight 20", "log d weight 1",
                "haul h with 10 when hour = 0", "haul h with 7 when hour = 3", "haul h with 20 when hour = 6", "haul h with 1"));
        checks.dueDouble("mean without any", x.mean(), 0.0);
        x.pass(1);
        checks.dueDouble("mean with one on a sledge", x.mean(), 0.0);
        x.pass(1);
        checks.dueDouble("mean of one", x.mean(), 10.0);
        double[] means = {8.5, 37.0 / 3, 9.5};
        for (double mean : means) {
            x.pass(3);
            checks.dueDouble("mean of one more", x.mean(), mean);
        }
        x.teach();
        checks.dueDouble("mean of nothing again", x.mean(), 0.0);
        FjordHaul y = Checks.taught(Checks.road("1 0 0", STRONG, "log a weight 60", "log b weight 60", "log c weight 60", "log d weight 60",
                "log e weight 60", "haul h with 300 / 5 * 1"));
        y.pass(120);
        checks.dueDouble("mean of the most", y.mean(), 60.0);
    }

    // ---- Promise 21: "wraps around as a 64-bit integer"

    private static void digestOfAll() {
        for (Twins.Maker maker : MAKERS) {
            FjordHaul x = maker.make();
            java.math.BigInteger d = java.math.BigInteger.valueOf(797);
            for (int what = 0; what < 13; what++) {
                d = next(d, x.count(what));
            }
            for (int i = 0; i < x.count(2) * 5; i++) {
                d = next(d, x.stretch(i / 5, i % 5));
            }
            for (int i = 0; i < x.count(3) * 10; i++) {
                d = next(d, x.horse(i / 10, i % 10));
            }
            for (int i = 0; i < x.count(4) * 4; i++) {
                d = next(d, x.log(i / 4, i % 4));
            }
            checks.isTrue("it wraps around", d.bitLength() > 64);
            checks.due("digest", x.digest(), d.longValue());
            checks.due("digest again", x.digest(), d.longValue());
        }
    }

    /** Of unbounded length here, and cut at the end alone. */
    private static java.math.BigInteger next(java.math.BigInteger d, int x) {
        return d.multiply(java.math.BigInteger.valueOf(31)).add(java.math.BigInteger.valueOf(x));
    }

    // ---- "(nothing is changed)"

    private static void askingChangesNothing() {
        for (Twins.Maker maker : MAKERS) {
            FjordHaul x = maker.make();
            FjordHaul y = maker.make();
            ask(x);
            twins.alike("asked for all", x, y);
            ask(x);
            ask(x);
            for (int hour = 0; hour < 9; hour++) {
                checks.due("asked again and again", x.pass(1), y.pass(1));
                checks.due("digest", x.digest(), y.digest());
            }
        }
    }

    private static void ask(FjordHaul x) {
        for (int l = 0; l < x.count(4); l++) {
            x.arrives(l);
        }
        for (int h = 0; h < x.count(3); h++) {
            x.breaks(h);
        }
        for (int what = 0; what < 4; what++) {
            x.foresee(120, what);
            x.foresee(1, what);
        }
        x.advise(80);
        x.choose(80);
        x.advise(1);
        x.choose(1);
        x.mean();
        x.errorAt();
        x.digest();
    }

    // ---- "An object is used for at most 512 calls after it has been made"

    private static void itIsUsedFor512Calls() {
        String list = "log a weight 1;log b weight 2;";
        FjordHaul x = new FjordHaul();
        Checks.write(x, list);
        int calls = 2 + 1 + 1; // two times feed, trim, and count, by which write asks for the length
        for (; calls < 511; calls++) {
            checks.due("pass in call " + calls, x.pass(120), 0);
        }
        checks.due("teach in the last call", x.teach(), 0);
        FjordHaul y = Twins.full();
        for (int i = 0; i < 200; i++) {
            checks.due("choose " + i, y.choose(80), Twins.full().choose(80));
        }
        checks.due("nothing is worn", y.digest(), Twins.full().digest());
        FjordHaul fed = new FjordHaul();
        for (int i = 0; i < 5; i++) {
            for (int bytes = 20; bytes <= 2000; bytes += 20) {
                checks.due("feed again", fed.feed(i, bytes, 0, 0, 0), bytes);
            }
            checks.due("trim again", fed.trim(0), 0);
        }
        checks.raises(fed, "still empty", ARGUMENT, () -> fed.trim(1));
    }
}
