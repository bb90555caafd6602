/** Promises 6 to 14: what is told of the road, what is done by hand, and how hours go. */
public final class RoadTest {
    private static final Checks checks = new Checks();

    public static void main(String[] args) {
        whatIsTold();
        wrongNumbers();
        sums();
        wordsOfSums();
        oneTrip();
        firstHaulThatHolds();
        loading();
        withoutStretch();
        needs();
        gliding();
        breakingChains();
        resting();
        waiting();
        tiredOnTheWayBack();
        tiredAtMost();
        frost();
        meetingWithoutBell();
        meetingWithBell();
        bellStopsTheOther();
        bellAgainstBell();
        forge();
        clear();
        pass();
        checks.end();
    }

    private static void counts(FjordHaul x, String when, int... want) {
        for (int i = 0; i < want.length; i++) {
            checks.due(when + ": count " + i, x.count(i), want[i]);
        }
    }

    private static void whatIsTold() {
        FjordHaul x = Checks.taught(Checks.road("3 2 1,9 -4 8", "horse h pull 50 links 3 iron 40 bell",
                "horse g pull 99 links 9 iron 7", "log a weight 20", "log b weight 7", "log c weight 60"));
        Checks.write(x, "abcde");
        counts(x, "told", 0, 0, 2, 2, 3, 87, 0, 0, 0, 0, 12, 0, 5);
        int[][] stretches = {{3, 2, 1, 0, 0}, {9, -4, 8, 0, 0}};
        int[][] horses = {{50, 3, 40, 1, -1, 0, 0, 0, 0, 0}, {99, 9, 7, 0, -1, 0, 0, 0, 0, 0}};
        int[][] logs = {{20, 0, -1, -1}, {7, 0, -1, -1}, {60, 0, -1, -1}};
        long d = 797;
        for (int what = 0; what < 13; what++) {
            d = d * 31 + new int[] {0, 0, 2, 2, 3, 87, 0, 0, 0, 0, 12, 0, 5}[what];
        }
        for (int i = 0; i < 10; i++) {
            checks.due("stretch " + i, x.stretch(i / 5, i % 5), stretches[i / 5][i % 5]);
            d = d * 31 + stretches[i / 5][i % 5];
        }
        for (int i = 0; i < 20; i++) {
            checks.due("horse " + i, x.horse(i / 10, i % 10), horses[i / 10][i % 10]);
            d = d * 31 + horses[i / 10][i % 10];
        }
        for (int i = 0; i < 12; i++) {
            checks.due("log " + i, x.log(i / 4, i % 4), logs[i / 4][i % 4]);
            d = d * 31 + logs[i / 4][i % 4];
        }
        checks.due("digest", x.digest(), d);
    }

    private static void wrongNumbers() {
        FjordHaul x = Checks.taught(Checks.road("1 0 0,1 0 0", "horse h pull 1 links 1 iron 1", "log a weight 1"));
        Class<IndexOutOfBoundsException> index = IndexOutOfBoundsException.class;
        Class<IllegalArgumentException> argument = IllegalArgumentException.class;
        for (int wrong : new int[] {-1, 13, Integer.MIN_VALUE, Integer.MAX_VALUE}) {
            checks.raises(x, "count " + wrong, index, () -> x.count(wrong));
            checks.raises(x, "stretch " + wrong, index, () -> x.stretch(wrong, 0));
            checks.raises(x, "stretch fact " + wrong, index, () -> x.stretch(0, wrong));
            checks.raises(x, "horse " + wrong, index, () -> x.horse(wrong, 0));
            checks.raises(x, "horse fact " + wrong, index, () -> x.horse(0, wrong));
            checks.raises(x, "log " + wrong, index, () -> x.log(wrong, 0));
            checks.raises(x, "log fact " + wrong, index, () -> x.log(0, wrong));
            checks.raises(x, "needs horse " + wrong, index, () -> x.needs(wrong, 0));
            checks.raises(x, "needs stretch " + wrong, index, () -> x.needs(0, wrong));
            checks.raises(x, "setWeather " + wrong, argument, () -> x.setWeather(wrong == -1 ? -4 : wrong));
            checks.raises(x, "forge horse " + wrong, index, () -> x.forge(wrong, 1));
            checks.raises(x, "forge both " + wrong, index, () -> x.forge(wrong, 0));
            checks.raises(x, "forge links " + wrong, argument, () -> x.forge(0, wrong));
            checks.raises(x, "clear " + wrong, index, () -> x.clear(wrong));
            checks.raises(x, "pass " + wrong, argument, () -> x.pass(wrong == 13 ? 0 : wrong));
        }
        checks.raises(x, "stretch 2", index, () -> x.stretch(2, 0));
        checks.raises(x, "stretch fact 5", index, () -> x.stretch(0, 5));
        checks.raises(x, "horse 1", index, () -> x.horse(1, 0));
        checks.raises(x, "horse fact 10", index, () -> x.horse(0, 10));
        checks.raises(x, "log 1", index, () -> x.log(1, 0));
        checks.raises(x, "log fact 4", index, () -> x.log(0, 4));
        checks.raises(x, "needs 1 0", index, () -> x.needs(1, 0));
        checks.raises(x, "needs 0 2", index, () -> x.needs(0, 2));
        checks.raises(x, "clear 2", index, () -> x.clear(2));
        checks.raises(x, "forge 0 0", argument, () -> x.forge(0, 0));
        checks.raises(x, "forge 0 10", argument, () -> x.forge(0, 10));
        checks.raises(x, "setWeather 4", argument, () -> x.setWeather(4));
        checks.raises(x, "pass 121", argument, () -> x.pass(121));
    }

    /** Whether a test holds is seen from the horse, which goes if it does. */
    private static void holds(boolean want, String test) {
        FjordHaul x = Checks.taught(Checks.road("1 0 0", "horse h pull 1 links 1 iron 1", "log a weight 1",
                "haul h with 1 when " + test));
        x.pass(1);
        checks.due(test, x.horse(0, 4), want ? 0 : -1);
    }

    private static void sums() {
        holds(true, "1 < 2");
        holds(false, "2 < 2");
        holds(true, "3 > 2");
        holds(false, "2 > 2");
        holds(true, "2 = 2");
        holds(false, "1 = 2");
        holds(true, "2 <= 2");
        holds(false, "3 <= 2");
        holds(true, "2 >= 2");
        holds(false, "1 >= 2");
        holds(true, "-1 < 0");
        holds(true, "2 + 3 * 4 = 14");
        holds(true, "(2 + 3) * 4 = 20");
        holds(true, "2 - 3 - 4 = -5");
        holds(true, "100 / 10 / 5 = 2");
        holds(true, "7 / 2 * 2 = 6");
        holds(true, "-7 / 2 = -3");
        holds(true, "7 / -2 = -3");
        holds(true, "-7 / -2 = 3");
        holds(true, "5 / 0 = 0");
        holds(true, "5 / (3 - 3) + 1 = 1");
        holds(true, "0 / 0 = 0");
        holds(true, "- 2 + 5 = 3");
        holds(true, "2 - -2 = 4");
        holds(true, "---1 = -1");
        holds(true, "min(3, 2) = 2");
        holds(true, "max(3, 2) = 3");
        holds(true, "min(-3, 2) - max(-4, -5) = 1");
        holds(true, "max(1 + 1, 3 - 2) * 5 = 10");
        holds(false, "2 + 3 = 6");
        holds(false, "2 - 3 = 1");
        holds(false, "2 * 3 = 5");
        holds(false, "7 / 2 = 4");
        holds(false, "min(2, 3) = 3");
        holds(false, "max(2, 3) = 2");
        holds(false, "1 = -1");
        holds(true, "999999 * 999999 = 0 - (729379 * 1000 + 967)");
        holds(true, "65536 * 32768 < 0");
        holds(true, "65536 * 32768 - 1 > 0");
        holds(true, "65536 * 32768 / -1 = 65536 * 32768");
        holds(true, "-(65536 * 32768) = 65536 * 32768");
        holds(false, "not 1 < 2");
        holds(true, "not not 1 < 2");
        holds(false, "not 2 < 1 and 2 < 1");
        holds(true, "not 1 < 2 or 1 < 2");
        holds(true, "not [2 < 1 and 2 < 1]");
        holds(true, "1 < 2 or 1 < 2 and 2 < 1");
        holds(true, "2 < 1 and 2 < 1 or 1 < 2");
        holds(false, "[1 < 2 or 1 < 2] and 2 < 1");
        holds(true, "1 < 2 and 1 < 2 and 1 < 2");
        holds(false, "1 < 2 and 1 < 2 and 2 < 1");
        holds(false, "2 < 1 or 2 < 1 or 2 < 1");
        holds(true, "2 < 1 or 2 < 1 or 1 < 2");
    }

    private static void wordsOfSums() {
        holds(true, "hour = 0 and weather = 0 and pile = 1 and raft = 0 and links h = 1");
        holds(true, "tired h = 0 and load h = 0 and frost s0 = 0 and fallen s0 = 0");
        // g only stands at the forest and shows what holds: it goes as soon as its test does.
        String[] tests = {"hour = 3", "weather = -2", "pile = 12", "raft = 50", "tired h = 6", "load h = 50",
            "links h = 4", "frost s0 = 7", "fallen s0 = 0 and hour = 1"};
        int[] hours = {3, 0, 1, 3, 5, 1, 0, 1, 1};
        for (int i = 0; i < tests.length; i++) {
            FjordHaul x = Checks.taught(Checks.road("4 -1 9", "horse g pull 1 links 1 iron 99", "horse h pull 99 links 4 iron 99",
                    "log a weight 50", "log b weight 12", "haul h with 50", "haul g with 12 when " + tests[i]));
            x.setWeather(-2);
            int gone = -1;
            for (int hour = 0; hour < 9 && gone < 0; hour++) {
                x.pass(1);
                gone = x.horse(0, 4) >= 0 ? hour : -1;
            }
            checks.due("first hour with " + tests[i], gone, hours[i]);
        }
        FjordHaul x = Checks.taught(Checks.road("4 9 0", "horse g pull 1 links 1 iron 99", "horse h pull 99 links 4 iron 1",
                "log a weight 50", "log b weight 12", "log c weight 11", "haul h with 60", "haul g with 11 when fallen s0 = 1"));
        x.pass(2);
        checks.due("one is fallen", x.stretch(0, 4), 1);
        checks.due("g sees it in the hour behind", x.horse(0, 4), -1);
        x.pass(1);
        checks.due("g is off", x.horse(0, 4), 0);
    }

    private static void oneTrip() {
        FjordHaul x = Checks.taught(Checks.road("2 0 0", "horse h pull 99 links 1 iron 99", "log a weight 10", "log b weight 20",
                "haul h with 30"));
        checks.due("hour 0", x.pass(1), 0);
        checks.facts(x, "hauled", 0, 0, 1, 0, 30, 0);
        counts(x, "hauled", 1, 0, 1, 1, 2, 0, 0, 0, 0, 1, 1, 0, 0);
        checks.due("state of a log on a sledge", x.log(1, 1), 1);
        checks.due("its horse", x.log(1, 2), 0);
        checks.due("its hour", x.log(1, 3), -1);
        checks.due("horses on it", x.stretch(0, 3), 1);
        checks.due("hour 1", x.pass(1), 0);
        checks.facts(x, "on its way", 0, 0, 1, 1, 30, 3);
        checks.due("hour 2", x.pass(1), 30);
        checks.facts(x, "at the raft", 0, 0, 0, 0, 0, 6);
        checks.due("brought", x.horse(0, 9), 30);
        checks.due("state at the raft", x.log(0, 1), 3);
        checks.due("no horse", x.log(0, 2), -1);
        checks.due("hour at the raft", x.log(0, 3), 2);
        counts(x, "at the raft", 3, 0, 1, 1, 2, 0, 30, 2, 0, 1, 1, 0, 0);
        checks.dueDouble("mean", x.mean(), 15.0);
        x.pass(1);
        checks.facts(x, "back", 0, 0, 0, 1, 0, 5);
        x.pass(1);
        checks.facts(x, "home", 0, -1, 0, 0, 0, 4);
        x.pass(3);
        checks.facts(x, "nothing to haul, no rest at the forest", 0, -1, 0, 0, 0, 4);
    }

    private static void firstHaulThatHolds() {
        String[] lines = {"horse h pull 99 links 1 iron 99", "log a weight 10", "log b weight 20", "haul h with 5 when hour = 0",
            "haul h with 25 when hour = 1", "haul h with 10", "haul h with 30"};
        FjordHaul x = Checks.taught(Checks.road("9 0 0", lines));
        x.pass(1);
        checks.due("the first that holds hauls nothing", x.horse(0, 4), -1);
        x.pass(1);
        checks.due("the second holds", x.horse(0, 7), 10);
        checks.due("b stays", x.log(1, 1), 0);
        FjordHaul y = Checks.taught(Checks.road("9 0 0", lines));
        y.pass(1);
        Checks.teach(y, Checks.road("9 0 0", lines));
        y.pass(1);
        Checks.teach(y, Checks.road("9 0 0", lines).replace("with 10", "with pile + 0 * raft"));
        y.pass(1);
        checks.due("the one without a test", y.horse(0, 7), 30);
        FjordHaul z = Checks.taught(Checks.road("9 0 0", "horse h pull 99 links 1 iron 99", "log a weight 10", "haul h with -5"));
        z.pass(9);
        checks.due("less than nothing is nothing", z.horse(0, 4), -1);
        FjordHaul second = Checks.taught(Checks.road("9 0 0", "horse h pull 9 links 1 iron 9", "horse g pull 9 links 1 iron 9",
                "log a weight 10", "log b weight 4", "haul g with pile", "haul h with 10"));
        second.pass(1);
        checks.due("h by its number first", second.horse(0, 7), 10);
        checks.due("g with the pile as it is then", second.horse(1, 7), 4);
    }

    private static void loading() {
        FjordHaul x = Checks.taught(Checks.road("9 0 0", "horse h pull 99 links 1 iron 99", "horse g pull 9 links 1 iron 9",
                "log a weight 20", "log b weight 15", "log c weight 10", "log d weight 5", "log e weight 1", "haul h with 32"));
        x.pass(1);
        int[] on = {1, 0, 1, 0, 1};
        for (int l = 0; l < 5; l++) {
            checks.due("log " + l + " by numbers, if it can be put", x.log(l, 1), on[l]);
        }
        FjordHaul y = Checks.taught(Checks.road("9 0 0", "horse h pull 99 links 1 iron 99", "log a weight 1", "log b weight 1",
                "log c weight 1", "log d weight 1", "log e weight 1", "log f weight 1", "haul h with 999999 * 2000"));
        y.pass(1);
        checks.due("at most 5", y.horse(0, 7), 5);
        checks.due("the sixth stays", y.log(5, 1), 0);
    }

    private static void withoutStretch() {
        FjordHaul x = Checks.taught("horse h pull 99 links 1 iron 99;log a weight 1;haul h with 60;");
        checks.due("without a stretch", x.pass(120), 0);
        checks.facts(x, "without a stretch", 0, -1, 0, 0, 0, 0);
        checks.due("the log stays", x.log(0, 1), 0);
    }

    private static void needs() {
        FjordHaul x = Checks.taught(Checks.road("9 3 2,9 -9 0,9 9 0,9 0 9", "horse h pull 99 links 1 iron 99", "log a weight 33",
                "log b weight 9", "haul h with 42"));
        checks.due("needs without a load", x.needs(0, 2), 0);
        checks.due("needs with frost and no load", x.needs(0, 3), 0);
        x.pass(1);
        checks.due("up", x.needs(0, 0), 52);
        checks.due("down steeply", x.needs(0, 1), 4);
        checks.due("up steeply", x.needs(0, 2), 79);
        checks.due("level on frost", x.needs(0, 3), 33);
        FjordHaul y = Checks.taught(Checks.road("9 0 9", "horse h pull 99 links 1 iron 99", "log a weight 5", "haul h with 5"));
        y.pass(1);
        checks.due("at least 0", y.needs(0, 0), 0);
    }

    private static void gliding() {
        FjordHaul x = Checks.taught(Checks.road("3 -1 6,4 0 9,4 -9 5", "horse h pull 99 links 1 iron 99", "log a weight 8", "haul h with 8"));
        x.pass(2);
        checks.facts(x, "glides", 0, 0, 1, 2);
        x.pass(1);
        checks.facts(x, "what is too much is gone", 0, 1, 1, 0);
        x.pass(1);
        checks.facts(x, "not on the level", 0, 1, 1, 1);
        x.pass(4);
        checks.facts(x, "not with a frost of 5", 0, 2, 1, 1);
        x.setWeather(1);
        x.pass(2);
        checks.facts(x, "two hours of one unit", 0, 2, 1, 3);
        FjordHaul y = Checks.taught(Checks.road("4 -1 9", "horse h pull 99 links 1 iron 99", "log a weight 8", "haul h with 8"));
        y.pass(3);
        checks.facts(y, "down in two hours", 0, 0, 0, 0);
        y.pass(1);
        checks.facts(y, "no gliding on the way back", 0, 0, 0, 1);
    }

    private static void breakingChains() {
        FjordHaul x = Checks.taught(Checks.road("1 0 0,5 5 0", "horse h pull 99 links 2 iron 30", "log a weight 10", "log b weight 11",
                "haul h with 21"));
        x.pass(2);
        checks.facts(x, "at the slope", 0, 1, 1, 0, 21, 2);
        x.pass(1);
        checks.facts(x, "broken", 0, 1, 0, 4, 0, 2);
        checks.due("a link less", x.horse(0, 1), 1);
        checks.due("one broke", x.count(11), 1);
        checks.due("fallen in all", x.count(8), 2);
        checks.due("fallen there", x.stretch(1, 4), 2);
        checks.due("fallen elsewhere", x.stretch(0, 4), 0);
        checks.due("state", x.log(1, 1), 2);
        checks.due("where", x.log(1, 2), 1);
        x.pass(1);
        checks.facts(x, "to the stretch before", 0, 0, 0, 0, 0, 1);
        FjordHaul y = Checks.taught(Checks.road("4 0 0", "horse h pull 99 links 1 iron 30", "log a weight 31", "haul h with 40 - hour"));
        y.pass(2);
        checks.facts(y, "broken at the beginning", 0, 0, 0, 3, 0, 0);
        y.clear(0);
        y.pass(4);
        checks.facts(y, "no links, no hauls", 0, -1, 0, 0, 0, 0);
        checks.due("no links", y.horse(0, 1), 0);
        y.forge(0, 1);
        y.pass(1);
        checks.due("hauls again", y.horse(0, 4), 0);
        FjordHaul z = Checks.taught(Checks.road("4 0 0", "horse h pull 99 links 1 iron 31", "log a weight 31", "haul h with 40"));
        z.pass(5);
        checks.due("as much as the iron holds", z.count(6), 31);
        FjordHaul w = Checks.taught(Checks.road("9 0 9", "horse h pull 99 links 1 iron 41", "log a weight 50", "haul h with 50"));
        w.pass(1);
        w.setWeather(-1);
        w.pass(6);
        checks.facts(w, "six units", 0, 0, 1, 6, 50, 30);
        w.pass(1);
        checks.facts(w, "broken behind six units", 0, 0, 0, 2, 0, 30);
    }

    private static void resting() {
        FjordHaul x = Checks.taught(Checks.road("9 0 0", "horse h pull 40 links 1 iron 99", "log a weight 32", "haul h with 32"));
        x.pass(3);
        checks.facts(x, "two units", 0, 0, 1, 2, 32, 8);
        x.pass(1);
        checks.facts(x, "as much as it can", 0, 0, 1, 3, 32, 12);
        x.pass(1);
        checks.facts(x, "rests", 0, 0, 1, 3, 32, 8);
        x.pass(1);
        checks.facts(x, "goes on", 0, 0, 1, 4, 32, 12);
        FjordHaul y = Checks.taught(Checks.road("9 0 0", "horse h pull 31 links 1 iron 99", "log a weight 32", "haul h with 32"));
        y.pass(20);
        checks.facts(y, "too weak", 0, 0, 1, 0, 32, 0);
        FjordHaul z = Checks.taught(Checks.road("9 0 0", "horse h pull 1 links 1 iron 1", "log a weight 2", "haul h with 2"));
        z.pass(2);
        checks.facts(z, "the chain comes ahead of the pull", 0, 0, 0, 8, 0, 0);
    }

    private static void waiting() {
        FjordHaul x = Checks.taught(Checks.road("3 0 0,1 0 0", "horse h pull 99 links 1 iron 99", "log a weight 24",
                "haul h with 24", "wait h at s0 when hour = 2", "wait h at s1 when hour = 1", "wait h at s0 when tired h = 4"));
        x.pass(2);
        checks.facts(x, "goes", 0, 0, 1, 1, 24, 3);
        x.pass(1);
        checks.facts(x, "waits", 0, 0, 1, 1, 24, 1);
        x.pass(1);
        checks.facts(x, "goes on", 0, 0, 1, 2, 24, 4);
        x.pass(1);
        checks.facts(x, "waits by the other", 0, 0, 1, 2, 24, 2);
        FjordHaul y = Checks.taught(Checks.road("3 0 0", "horse h pull 99 links 1 iron 5", "log a weight 24", "haul h with 24",
                "wait h at s0 when hour < 4 or load h = 0"));
        y.pass(4);
        checks.facts(y, "waits ahead of the chain's breaking", 0, 0, 1, 0, 24, 0);
        y.pass(9);
        checks.facts(y, "waits on its way back too", 0, 0, 0, 2, 0, 0);
        FjordHaul z = Checks.taught(Checks.road("3 0 0", "horse g pull 99 links 1 iron 99", "horse h pull 99 links 1 iron 99",
                "log a weight 24", "log b weight 1", "haul h with 24", "haul g with 1 when load h > 0", "wait h at s0 when hour < 9"));
        z.pass(3);
        checks.facts(z, "another horse does not wait", 0, 0, 1, 1);
        checks.facts(z, "the one that waits", 1, 0, 1, 0);
    }

    private static void tiredOnTheWayBack() {
        FjordHaul x = Checks.taught(Checks.road("1 0 0", "horse h pull 99 links 1 iron 99", "log a weight 60", "haul h with 60 when hour = 0"));
        x.pass(2);
        checks.facts(x, "at the raft", 0, 0, 0, 0, 0, 7);
        x.pass(1);
        checks.facts(x, "home", 0, -1, 0, 0, 0, 6);
    }

    private static void tiredAtMost() {
        FjordHaul x = Checks.taught(Checks.road("9 0 0,9 0 0", "horse h pull 99 links 1 iron 99", "log a weight 39", "haul h with 39"));
        x.pass(16);
        checks.facts(x, "15 times 4", 0, 1, 1, 6, 39, 60);
        x.pass(1);
        checks.facts(x, "at most 60", 0, 1, 1, 7, 39, 60);
        x.pass(1);
        checks.facts(x, "so it need not rest", 0, 1, 1, 8, 39, 60);
        FjordHaul y = Checks.taught(Checks.road("9 0 0", "horse h pull 99 links 1 iron 99", "log a weight 7", "haul h with 7 when hour = 0"));
        y.pass(15);
        checks.due("not less than 0", y.horse(0, 8), 0);
        FjordHaul z = Checks.taught(Checks.road("9 0 9", "horse h pull 1 links 1 iron 99", "log a weight 10", "haul h with 10",
                "wait h at s0 when hour < 5"));
        z.pass(4);
        checks.due("rests at 0", z.horse(0, 8), 0);
    }

    private static void frost() {
        FjordHaul x = Checks.taught(Checks.road("1 0 4,1 0 8,1 0 0"));
        checks.due("the weather before", x.setWeather(2), 0);
        x.pass(1);
        checks.due("hour 0 can be divided", x.stretch(0, 2), 6);
        checks.due("at most 9", x.stretch(1, 2), 9);
        checks.due("from 0", x.stretch(2, 2), 2);
        x.pass(5);
        checks.due("hours 1 to 5 cannot", x.stretch(0, 2), 6);
        x.pass(1);
        checks.due("hour 6 can", x.stretch(0, 2), 8);
        checks.due("the weather before", x.setWeather(-3), 2);
        checks.due("the weather", x.count(1), -3);
        x.pass(6);
        checks.due("less", x.stretch(2, 2), 1);
        x.pass(6);
        checks.due("at least 0", x.stretch(2, 2), 0);
        checks.due("hour", x.count(0), 19);
        checks.due("the least weather", x.setWeather(3), -3);
        FjordHaul y = Checks.taught(Checks.road("9 0 0", "horse h pull 99 links 1 iron 99", "log a weight 16", "haul h with 16"));
        y.setWeather(3);
        y.pass(6);
        checks.due("tired of 13 each", y.horse(0, 8), 5);
        y.pass(2);
        checks.due("the frost comes behind the moving", y.horse(0, 8), 7);
    }

    private static final String[] MEETING = {"log a weight 8", "log b weight 8"};

    private static FjordHaul meeting(String first, String second, String hauls) {
        return Checks.taught(Checks.road("2 0 0,2 0 0", first, second, MEETING[0], MEETING[1]) + hauls);
    }

    private static void meetingWithoutBell() {
        // h is on its way back on the second stretch from hour 4 on; g hauls in hour 4 and is at the end of the first in hour 6.
        FjordHaul x = meeting("horse g pull 99 links 1 iron 99", "horse h pull 99 links 1 iron 99",
                "haul h with 8;haul g with 8 when hour = 4;");
        x.pass(5);
        checks.facts(x, "h turns", 1, 1, 0, 0, 0, 4);
        checks.facts(x, "g hauls", 0, 0, 1, 0, 8, 0);
        x.pass(1);
        checks.facts(x, "h", 1, 1, 0, 1);
        checks.facts(x, "g", 0, 0, 1, 1);
        x.pass(1);
        checks.facts(x, "g stands at the end, more tired", 0, 0, 1, 1, 8, 2);
        checks.facts(x, "h stands too, less tired", 1, 1, 0, 1, 0, 2);
        x.pass(9);
        checks.facts(x, "they stand, and tire", 0, 0, 1, 1, 8, 11);
        checks.facts(x, "and rest", 1, 1, 0, 1, 0, 0);
    }

    private static void meetingWithBell() {
        FjordHaul x = meeting("horse h pull 99 links 1 iron 99", "horse g pull 99 links 1 iron 99 bell",
                "haul h with 8;haul g with 8 when hour = 4;");
        x.pass(6);
        checks.facts(x, "h", 0, 1, 0, 1);
        checks.facts(x, "g", 1, 0, 1, 1);
        x.pass(1);
        checks.facts(x, "h has no bell and stands", 0, 1, 0, 1, 0, 2);
        checks.facts(x, "g has a bell and goes", 1, 1, 1, 0, 8, 2);
        x.pass(1);
        checks.facts(x, "h goes, since g is gone", 0, 0, 0, 0, 0, 1);
    }

    private static void bellStopsTheOther() {
        FjordHaul x = meeting("horse g pull 99 links 1 iron 99 bell", "horse h pull 99 links 1 iron 99",
                "haul h with 8;haul g with 8 when hour = 4;");
        x.pass(7);
        checks.facts(x, "g goes first", 0, 1, 1, 0, 8, 2);
        checks.facts(x, "h does not move in this hour", 1, 1, 0, 1, 0, 3);
        x.pass(1);
        checks.facts(x, "h goes in the next", 1, 0, 0, 0, 0, 2);
    }

    private static void bellAgainstBell() {
        FjordHaul x = meeting("horse g pull 99 links 1 iron 99 bell", "horse h pull 99 links 1 iron 99 bell",
                "haul h with 8;haul g with 8 when hour = 4;");
        x.pass(7);
        checks.facts(x, "g stands", 0, 0, 1, 1, 8, 2);
        checks.facts(x, "h has moved too, and stands", 1, 1, 0, 1, 0, 2);
        FjordHaul y = Checks.taught(Checks.road("2 0 0,2 0 0", "horse g pull 99 links 1 iron 99 bell", "horse h pull 99 links 1 iron 99",
                "log a weight 8", "log b weight 8", "haul h with 8", "haul g with 8"));
        y.pass(3);
        checks.facts(y, "the same way needs no bell", 0, 1, 1, 0);
        checks.facts(y, "both go", 1, 1, 1, 0);
        // g comes to the second stretch in hour 3, where f is on the same way, and e is on its way back on the third.
        FjordHaul z = Checks.taught(Checks.road("1 0 0,3 0 0,3 0 0", "horse g pull 99 links 1 iron 99 bell",
                "horse f pull 99 links 1 iron 99", "horse e pull 99 links 1 iron 99 bell", "log a weight 8", "log b weight 8",
                "log c weight 8", "haul e with 8", "haul f with 8 when hour = 6", "haul g with 8 when hour = 8"));
        z.pass(9);
        checks.facts(z, "f on the second", 1, 1, 1, 1);
        checks.facts(z, "e on its way back on the third", 2, 2, 0, 1);
        z.pass(1);
        checks.facts(z, "g comes", 0, 1, 1, 0);
        checks.facts(z, "f on the same way goes on", 1, 1, 1, 2);
        checks.facts(z, "e elsewhere goes on", 2, 2, 0, 2);
    }

    private static void forge() {
        FjordHaul x = Checks.taught(Checks.road("1 0 0", "horse h pull 1 links 2 iron 1", "horse g pull 1 links 9 iron 1"));
        checks.due("forge", x.forge(0, 3), 5);
        checks.due("links", x.horse(0, 1), 5);
        checks.due("links of all", x.count(10), 14);
        checks.due("at most 9", x.forge(0, 9), 9);
        checks.due("at most 9 again", x.forge(1, 1), 9);
    }

    private static void clear() {
        FjordHaul x = Checks.taught(Checks.road("2 0 0,2 9 0", "horse h pull 99 links 9 iron 40", "horse g pull 99 links 9 iron 10",
                "log a weight 20", "log b weight 20", "log c weight 11", "log d weight 9", "haul h with 40", "haul g with 20"));
        x.pass(4);
        checks.due("fallen on the second", x.stretch(1, 4), 2);
        checks.due("fallen on the first", x.stretch(0, 4), 2);
        checks.due("clear", x.clear(1), 2);
        checks.due("state", x.log(0, 1), 0);
        checks.due("where", x.log(0, 2), -1);
        checks.due("pile", x.count(5), 40);
        checks.due("the other stays", x.stretch(0, 4), 2);
        checks.due("clear again", x.clear(1), 0);
        checks.due("fallen", x.count(8), 2);
    }

    private static void pass() {
        String text = Checks.road("1 0 0", "horse h pull 99 links 1 iron 99", "log a weight 10", "log b weight 20", "haul h with 25");
        FjordHaul x = Checks.taught(text);
        checks.due("pass 120", x.pass(120), 30);
        checks.due("hour", x.count(0), 120);
        checks.due("nothing more", x.pass(1), 0);
        FjordHaul y = Checks.taught(text);
        int weight = 0;
        for (int i = 0; i < 121; i++) {
            weight += y.pass(1);
        }
        checks.due("hour by hour", weight, 30);
        checks.due("the same", x.digest(), y.digest());
    }
}
