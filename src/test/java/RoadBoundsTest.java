/**
 * "2. The road" and what "Terms" says of sums, sentence by sentence: of each that names a boundary case the last case
 * on its one side and the first on its other.
 */
public final class RoadBoundsTest {
    /** A horse that pulls and holds whatever it hauls here, and one that shows something by its going. */
    private static final String STRONG = "horse h pull 99 links 9 iron 99";
    private static final String MOST = "65536*32767+65535";
    private static final String LEAST = "65536*32768";
    private static final Checks checks = new Checks();

    public static void main(String[] args) {
        sumsWrapAround();
        divisionIsCutTowards0();
        divisionBy0And1Less();
        comparisons();
        andOrNot();
        atFirst();
        unitsFrom0ToLengthLess1();
        withoutLinks();
        loadOnlyOnTheWayDown();
        needIsAtLeast0();
        needIsCut();
        horsesHaulByNumbers();
        theFirstHaulThatHolds();
        notHeavierThanThat();
        noMoreThanNothing();
        atMost5Logs();
        logsOfThePileAlone();
        withoutStretchNone();
        haulsWhoeverIsThere();
        hasMovedInThisHour();
        restsBy2WhileItWaits();
        waitOfThisHorseAtThisStretch();
        waitComesFirst();
        theLastHaulAndWait();
        breaksAtMoreThanTheIron();
        unitsBehindABreak();
        breaksWhoeverIsThere();
        restsAtMoreThanItsPull();
        restsBy4();
        goesBy2();
        tiredByAnEighth();
        lessTiredOnTheWayBack();
        tired0To60();
        theEndOfALongRoad();
        theEndOfARoadOfOne();
        turnsWhoeverIsThere();
        unitsAtTheEnd();
        noHorseOnTheOtherWay();
        oneWithABell();
        noneOfThoseThereHasOne();
        theyHaveMovedThen();
        frostInHoursDividedBy6();
        frost0To9();
        wordsAsTheyAreNow();
        checks.end();
    }

    /** Whether a test holds is seen from the horse, which goes if it does; that it does not, by its opposite. */
    private static void holds(String test) {
        FjordHaul x = Checks.taught(Checks.road("1 0 0", "horse h pull 1 links 1 iron 1", "log a weight 1",
                "haul h with 1 when " + test));
        x.pass(1);
        checks.due(test, x.horse(0, 4), 0);
        FjordHaul y = Checks.taught(Checks.road("1 0 0", "horse h pull 1 links 1 iron 1", "log a weight 1",
                "haul h with 1 when not [" + test + "]"));
        y.pass(1);
        checks.due("not " + test, y.horse(0, 4), -1);
    }

    private static void holdsNot(String test) {
        holds("not[" + test + "]");
    }

    // ---- Terms: "sums, differences and products of the language wrap around in 32 bits"

    private static void sumsWrapAround() {
        holds(MOST + ">0");
        holds(LEAST + "<0");
        holds(MOST + "+0=" + MOST);
        holds(MOST + "+1=" + LEAST);
        holds(MOST + "+2=" + LEAST + "+1");
        holds(MOST + "+(" + MOST + ")=-2");
        holds(LEAST + "-0=" + LEAST);
        holds(LEAST + "-1=" + MOST);
        holds("0-1-(" + MOST + ")=" + LEAST);
        holds("0-2-(" + MOST + ")=" + MOST);
        holds("0-(" + LEAST + ")=" + LEAST);
        holds("-(" + LEAST + ")=" + LEAST);
        holds("-(" + MOST + ")=" + LEAST + "+1");
        holds("32768*32768*2=" + LEAST);
        holds("32768*65535>0");
        holds("65536*32768<0");
        holds("65536*65536=0");
        holds("65535*65537=-1");
        holds("(" + LEAST + ")*-1=" + LEAST);
        holds("(" + LEAST + ")*(" + LEAST + ")=0");
        holds("(" + MOST + ")*(" + MOST + ")=1");
        holds("999999*999999=0-729379*1000-967");
        holds("min(" + MOST + "," + LEAST + ")=" + LEAST);
        holds("max(" + MOST + "," + LEAST + ")=" + MOST);
        holds(LEAST + "<" + MOST);
        holds(MOST + ">" + LEAST);
    }

    // ---- "/ is cut towards 0, gives 0 with 0 on the right side, and -2147483648 / -1 gives -2147483648"

    private static void divisionIsCutTowards0() {
        holds("7/2=3");
        holds("-7/2=-3");
        holds("7/-2=-3");
        holds("-7/-2=3");
        holds("1/2=0");
        holds("-1/2=0");
        holds("1/-2=0");
        holds("5/6=0");
        holds("6/6=1");
        holds("-5/6=0");
        holds("-6/6=-1");
        holds("(" + LEAST + ")/2=-32768*32768");
        holds("(" + LEAST + ")/999999=-2147");
    }

    private static void divisionBy0And1Less() {
        holds("0/0=0");
        holds("1/0=0");
        holds("-1/0=0");
        holds("(" + MOST + ")/0=0");
        holds("(" + LEAST + ")/0=0");
        holds("5/(hour-hour)+2=2");
        holds("5/weather=0");
        holds("(" + LEAST + ")/-1=" + LEAST);
        holds("(" + LEAST + ")/1=" + LEAST);
        holds("(" + LEAST + "+1)/-1=" + MOST);
        holds("(" + MOST + ")/-1=" + LEAST + "+1");
        holds("(" + LEAST + ")/-2=32768*32768");
        holds("(" + LEAST + ")/(" + LEAST + ")=1");
        holds("(" + MOST + ")/(" + LEAST + ")=0");
        holds("1/1=1");
        holds("1/-1=-1");
    }

    private static void comparisons() {
        for (int left = 1; left <= 3; left++) {
            String[] signs = {"<", ">", "=", "<=", ">="};
            boolean[] want = {left < 2, left > 2, left == 2, left <= 2, left >= 2};
            for (int i = 0; i < 5; i++) {
                String test = left + signs[i] + "2";
                if (want[i]) {
                    holds(test);
                } else {
                    holdsNot(test);
                }
            }
        }
        holds("-1<0");
        holds("0<1");
        holdsNot("0<-1");
        holds("min(1,2)=1");
        holds("min(2,1)=1");
        holds("min(2,2)=2");
        holds("max(1,2)=2");
        holds("max(2,1)=2");
        holds("max(-2,-1)=-1");
    }

    /** "and binds more than or, not more than and", all sides in all ways. */
    private static void andOrNot() {
        String[] parts = {"2<1", "1<2"};
        for (int i = 0; i < 8; i++) {
            boolean a = (i & 1) != 0;
            boolean b = (i & 2) != 0;
            boolean c = (i & 4) != 0;
            String p = parts[i & 1];
            String q = parts[i >> 1 & 1];
            String r = parts[i >> 2];
            is(a | b & c, p + " or " + q + " and " + r);
            is(a & b | c, p + " and " + q + " or " + r);
            is(!a & b, "not " + p + " and " + q);
            is(!a | b, "not " + p + " or " + q);
            is(a & !b | !c, p + " and not " + q + " or not " + r);
            is((a | b) & c, "[" + p + " or " + q + "] and " + r);
            is(!(a & b) | c, "not [" + p + " and " + q + "] or " + r);
            is(a | b | c, p + " or " + q + " or " + r);
            is(a & b & c, p + " and " + q + " and " + r);
            is(!!a, "not not " + p);
        }
    }

    private static void is(boolean want, String test) {
        if (want) {
            holds(test);
        } else {
            holdsNot(test);
        }
    }

    // ---- "A horse is at the forest (at first) ... tired by 0 (at first)"; "A log is in the pile (at first)"; "weather (0, at first)"

    private static void atFirst() {
        FjordHaul x = Checks.taught(Checks.road("1 0 0", STRONG, "log a weight 7", "haul h with 7 when hour > 0"));
        checks.facts(x, "at first", 0, -1, 0, 0, 0, 0);
        checks.due("brought at first", x.horse(0, 9), 0);
        checks.due("the log at first", x.log(0, 1), 0);
        checks.due("its place at first", x.log(0, 2), -1);
        checks.due("its hour at first", x.log(0, 3), -1);
        checks.due("the weather at first", x.count(1), 0);
        checks.due("the hour at first", x.count(0), 0);
        x.pass(1);
        checks.facts(x, "with a test that does not hold", 0, -1, 0, 0, 0, 0);
        checks.due("the hour behind one", x.count(0), 1);
    }

    // ---- "some units of the stretch gone (0 to its length - 1)"

    private static void unitsFrom0ToLengthLess1() {
        for (int length = 1; length <= 9; length++) {
            FjordHaul x = Checks.taught(Checks.road(length + " 0 0", STRONG, "log a weight 7", "haul h with 7"));
            for (int units = 0; units < length; units++) {
                x.pass(1);
                checks.facts(x, "down " + length, 0, 0, 1, units, 7);
            }
            for (int units = 0; units < length; units++) {
                checks.due("at the raft ahead of unit " + units, x.pass(1), units == 0 ? 7 : 0);
                checks.facts(x, "back " + length, 0, 0, 0, units, 0);
            }
            x.pass(1);
            checks.facts(x, "home", 0, -1, 0, 0, 0);
        }
    }

    // ---- "Its chain has links; without any it hauls no more."

    private static void withoutLinks() {
        String[] lines = {"horse h pull 99 links 2 iron 9", "log a weight 10", "log b weight 10", "haul h with 10"};
        FjordHaul x = Checks.taught(Checks.road("1 0 0", lines));
        x.pass(2);
        checks.due("one link is left", x.horse(0, 1), 1);
        x.pass(1);
        checks.facts(x, "home", 0, -1, 0, 0, 0, 0);
        x.pass(1);
        checks.facts(x, "with one link it hauls", 0, 0, 1, 0, 10, 0);
        x.pass(2);
        checks.due("no link is left", x.horse(0, 1), 0);
        checks.facts(x, "home again", 0, -1, 0, 0, 0, 0);
        checks.due("clear", x.clear(0), 2);
        x.pass(9);
        checks.facts(x, "without any it hauls no more", 0, -1, 0, 0, 0, 0);
        checks.due("links stay", x.horse(0, 1), 0);
        checks.due("forge", x.forge(0, 1), 1);
        x.pass(1);
        checks.facts(x, "with one anew it hauls", 0, 0, 1, 0, 10, 0);
    }

    // ---- "The load of a horse ... (0 on its way back, and at the forest)"

    private static void loadOnlyOnTheWayDown() {
        FjordHaul x = Checks.taught(Checks.road("2 0 0", STRONG, "log a weight 7", "log b weight 2", "haul h with 9"));
        int[] loads = {0, 9, 9, 0, 0, 0};
        for (int hour = 0; hour < loads.length; hour++) {
            checks.due("load in hour " + hour, x.horse(0, 7), loads[hour]);
            checks.due("need in hour " + hour, x.needs(0, 0), loads[hour]);
            x.pass(1);
        }
        FjordHaul y = Checks.taught(Checks.road("2 0 0", "horse h pull 99 links 1 iron 8", "log a weight 9", "haul h with 9"));
        y.pass(2);
        checks.due("load behind a break", y.horse(0, 7), 0);
        checks.due("need behind a break", y.needs(0, 0), 0);
    }

    // ---- "load * (10 + slope) / 10 - frost of the stretch, at least 0"

    private static void needIsAtLeast0() {
        for (int load = 7; load <= 12; load++) {
            FjordHaul x = Checks.taught(Checks.road("9 0 9,1 0 0,1 0 " + 8, STRONG, "log a weight " + load, "haul h with 60"));
            checks.due("need of nothing", x.needs(0, 0), 0);
            checks.due("need of nothing without frost", x.needs(0, 1), 0);
            x.pass(1);
            checks.due("need of " + load + " with a frost of 9", x.needs(0, 0), load <= 9 ? 0 : load - 9);
            checks.due("need of " + load + " with a frost of 0", x.needs(0, 1), load);
            checks.due("need of " + load + " with a frost of 8", x.needs(0, 2), load <= 8 ? 0 : load - 8);
        }
    }

    private static void needIsCut() {
        FjordHaul x = Checks.taught(Checks.road("9 1 0,9 -9 0,9 9 0,9 -1 0,9 9 9", STRONG, "log a weight 9", "haul h with 9"));
        x.pass(1);
        int[] wants = {9, 0, 17, 8, 8};
        for (int s = 0; s < wants.length; s++) {
            checks.due("need of 9 on " + s, x.needs(0, s), wants[s]);
        }
        FjordHaul y = Checks.taught(Checks.road("9 1 0,9 -9 0,9 9 0,9 -1 0", STRONG, "log a weight 10", "haul h with 10"));
        y.pass(1);
        int[] more = {11, 1, 19, 9};
        for (int s = 0; s < more.length; s++) {
            checks.due("need of 10 on " + s, y.needs(0, s), more[s]);
        }
        FjordHaul z = Checks.taught(Checks.road("9 9 0,9 -9 9", STRONG, "log a weight 60", "log b weight 60", "log c weight 60",
                "log d weight 60", "log e weight 60", "haul h with 300"));
        z.pass(1);
        checks.due("the most load", z.horse(0, 7), 300);
        checks.due("the most need", z.needs(0, 0), 570);
        checks.due("need with both at their ends", z.needs(0, 1), 21);
    }

    // ---- 1. Hauling

    private static void horsesHaulByNumbers() {
        FjordHaul x = Checks.taught(Checks.road("9 0 0", "horse z pull 9 links 1 iron 9", "horse y pull 9 links 1 iron 9",
                "horse x pull 9 links 1 iron 9", "log a weight 1", "log b weight 1", "haul x with 1", "haul y with 1", "haul z with 1"));
        x.pass(1);
        checks.due("the first takes the first", x.log(0, 2), 0);
        checks.due("the second takes the second", x.log(1, 2), 1);
        checks.facts(x, "for the third none is left", 2, -1, 0, 0, 0, 0);
    }

    /** "the first haul of the horse, in the order in which they are told, whose test holds now (or that has none)" */
    private static void theFirstHaulThatHolds() {
        String[][] hauls = {
            {"haul h with 1", "haul h with 2", "1"},
            {"haul h with 1 when 1 < 2", "haul h with 2", "1"},
            {"haul h with 1 when 2 < 1", "haul h with 2", "2"},
            {"haul h with 1 when 2 < 1", "haul h with 2 when 1 < 2", "2"},
            {"haul h with 1 when 2 < 1", "haul h with 2 when 2 < 1", "0"},
            {"haul h with 0", "haul h with 2", "0"},
            {"haul g with 1", "haul h with 2", "2"},
            {"haul g with 2", "haul g with 1", "0"},
        };
        for (String[] two : hauls) {
            FjordHaul x = Checks.taught(Checks.road("9 0 0", STRONG, "horse g pull 9 links 1 iron 9",
                    "log a weight 1", "log b weight 1", two[0], two[1]));
            x.pass(1);
            checks.due(two[0] + "; " + two[1], x.horse(0, 7), Integer.parseInt(two[2]));
        }
        FjordHaul none = Checks.taught(Checks.road("9 0 0", STRONG, "log a weight 1"));
        none.pass(1);
        checks.facts(none, "without a haul", 0, -1, 0, 0, 0, 0);
    }

    /** "each that can be put onto the sledge so that all there is not heavier than that" */
    private static void notHeavierThanThat() {
        for (int most = 0; most <= 62; most++) {
            FjordHaul x = Checks.taught(Checks.road("9 0 0", STRONG, "log a weight 30", "log b weight 20", "log c weight 11",
                    "haul h with " + most));
            x.pass(1);
            int load = 0;
            for (int weight : new int[] {30, 20, 11}) {
                load += load + weight <= most ? weight : 0;
            }
            checks.due("load with " + most, x.horse(0, 7), load);
        }
        int[] most = {10, 11, 19, 20, 29, 30, 31, 40, 41, 49, 50, 60, 61};
        int[] loads = {0, 11, 11, 20, 20, 30, 30, 30, 41, 41, 50, 50, 61};
        for (int i = 0; i < most.length; i++) {
            FjordHaul x = Checks.taught(Checks.road("9 0 0", STRONG, "log a weight 30", "log b weight 20", "log c weight 11",
                    "haul h with " + most[i]));
            x.pass(1);
            checks.due("load with just " + most[i], x.horse(0, 7), loads[i]);
        }
    }

    /** "If there is any, the horse is on the first stretch": a sum that lets none be loaded leaves it at the forest. */
    private static void noMoreThanNothing() {
        for (String sum : new String[] {"0", "-1", LEAST, MOST + "+1", "1-1", "0-999999"}) {
            FjordHaul x = Checks.taught(Checks.road("9 0 0", STRONG, "log a weight 1", "haul h with " + sum));
            x.pass(3);
            checks.facts(x, "with " + sum, 0, -1, 0, 0, 0, 0);
            checks.due("the log with " + sum, x.log(0, 1), 0);
        }
        for (String sum : new String[] {"1", MOST, LEAST + "-1", "999999"}) {
            FjordHaul x = Checks.taught(Checks.road("9 0 0", STRONG, "log a weight 1", "haul h with " + sum));
            x.pass(1);
            checks.facts(x, "with " + sum, 0, 0, 1, 0, 1, 0);
            checks.due("the log with " + sum, x.log(0, 1), 1);
        }
        FjordHaul empty = Checks.taught(Checks.road("9 0 0", STRONG, "haul h with 99"));
        empty.pass(1);
        checks.facts(empty, "without logs", 0, -1, 0, 0, 0, 0);
    }

    /** "are loaded, at most 5" */
    private static void atMost5Logs() {
        for (int logs = 4; logs <= 7; logs++) {
            String text = Checks.road("9 0 0", STRONG);
            for (int l = 0; l < logs; l++) {
                text += "log l" + l + " weight " + (l + 1) + ";";
            }
            FjordHaul x = Checks.taught(text + "haul h with 60;");
            x.pass(1);
            for (int l = 0; l < logs; l++) {
                checks.due("log " + l + " of " + logs, x.log(l, 1), l < 5 ? 1 : 0);
            }
            checks.due("load of " + logs, x.horse(0, 7), logs == 4 ? 10 : 15);
        }
    }

    /** "logs of the pile": none that is on a sledge, fallen, or at the raft. */
    private static void logsOfThePileAlone() {
        FjordHaul x = Checks.taught(Checks.road("1 0 0", "horse h pull 99 links 9 iron 50", "horse g pull 99 links 9 iron 5",
                "horse f pull 99 links 9 iron 99", "log a weight 20", "log b weight 6", "log c weight 1",
                "haul h with 20", "haul g with 6", "haul f with 60 when hour = 1 or hour = 4"));
        x.pass(1);
        checks.due("c is left", x.log(2, 1), 0);
        x.pass(3);
        checks.due("a is at the raft", x.log(0, 1), 3);
        checks.due("b is fallen", x.log(1, 1), 2);
        checks.due("c is no more in the pile", x.count(5), 0);
        x.pass(9);
        checks.facts(x, "none is taken by h", 0, -1, 0, 0, 0);
        checks.facts(x, "none is taken by f", 2, -1, 0, 0, 0);
        checks.due("b is still fallen", x.log(1, 1), 2);
        checks.due("a is still at the raft", x.log(0, 1), 3);
    }

    /** "(without a stretch none)" */
    private static void withoutStretchNone() {
        FjordHaul x = Checks.taught(STRONG + ";log a weight 1;haul h with 60;");
        checks.due("pass without a stretch", x.pass(120), 0);
        checks.facts(x, "without a stretch", 0, -1, 0, 0, 0, 0);
        checks.due("the log", x.log(0, 1), 0);
        FjordHaul y = Checks.taught(Checks.road("1 0 0", STRONG, "log a weight 1", "haul h with 60"));
        checks.due("pass with one", y.pass(120), 1);
    }

    /** "the horse is on the first stretch from now on, whoever is there" */
    private static void haulsWhoeverIsThere() {
        FjordHaul x = Checks.taught(Checks.road("3 0 0", "horse h pull 99 links 1 iron 99 bell", STRONG.replace("horse h", "horse g"),
                "log a weight 1", "log b weight 1", "haul h with 1 when hour = 0", "haul g with 1 when hour = 5"));
        x.pass(5);
        checks.facts(x, "on its way back", 0, 0, 0, 1);
        x.pass(1);
        checks.facts(x, "still on its way back", 0, 0, 0, 2);
        checks.facts(x, "hauled against it", 1, 0, 1, 0, 1);
        x.pass(1);
        checks.facts(x, "home", 0, -1, 0, 0);
        checks.facts(x, "goes on", 1, 0, 1, 1, 1);
    }

    /** "on its way down, 0 units gone, and has moved in this hour" */
    private static void hasMovedInThisHour() {
        FjordHaul x = Checks.taught(Checks.road("1 -1 9", STRONG, "log a weight 60", "haul h with 60", "wait h at s0 when hour = 0"));
        x.pass(1);
        checks.facts(x, "hauled", 0, 0, 1, 0, 60, 0);
        x.pass(1);
        checks.facts(x, "moved in the next hour", 0, 0, 0, 0, 0, 5);
    }

    // ---- 2. Moving: "it rests: it is less tired by 2"

    private static void restsBy2WhileItWaits() {
        int[] loads = {7, 8, 16, 24, 32};
        int[] ahead = {0, 1, 2, 3, 4};
        int[] behind = {0, 0, 0, 1, 2};
        for (int i = 0; i < loads.length; i++) {
            FjordHaul x = Checks.taught(Checks.road("9 0 0", STRONG, "log a weight " + loads[i], "haul h with 60", "wait h at s0 when hour = 2"));
            x.pass(2);
            checks.facts(x, "ahead", 0, 0, 1, 1, loads[i], ahead[i]);
            x.pass(1);
            checks.facts(x, "rested from " + ahead[i], 0, 0, 1, 1, loads[i], behind[i]);
            x.pass(1);
            checks.facts(x, "goes on", 0, 0, 1, 2, loads[i], behind[i] + ahead[i]);
        }
    }

    /** "a wait of this horse at this stretch" */
    private static void waitOfThisHorseAtThisStretch() {
        String[] waits = {"wait h at s0 when 1 < 2", "wait g at s0 when 1 < 2", "wait h at s1 when 1 < 2", "wait h at s0 when 2 < 1",
            "wait h at s0 when 2 < 1;wait h at s0 when 1 < 2"};
        int[] units = {0, 2, 2, 2, 0};
        for (int i = 0; i < waits.length; i++) {
            FjordHaul x = Checks.taught(Checks.road("3 0 0,3 0 0", STRONG, "horse g pull 9 links 1 iron 9", "log a weight 9",
                    "haul h with 9", waits[i]));
            x.pass(3);
            checks.facts(x, waits[i], 0, 0, 1, units[i]);
        }
        FjordHaul back = Checks.taught(Checks.road("2 0 0", STRONG, "log a weight 9", "haul h with 9", "wait h at s0 when load h = 0"));
        back.pass(9);
        checks.facts(back, "waits on its way back too", 0, 0, 0, 0, 0, 0);
    }

    /** "Otherwise, if what it needs is more than the iron", "Otherwise, if ... its pull": a wait is ahead of both. */
    private static void waitComesFirst() {
        FjordHaul x = Checks.taught(Checks.road("3 0 0", "horse h pull 99 links 1 iron 5", "log a weight 24", "haul h with 24",
                "wait h at s0 when hour < 4"));
        x.pass(4);
        checks.facts(x, "waits instead of breaking", 0, 0, 1, 0, 24, 0);
        x.pass(1);
        checks.facts(x, "breaks then", 0, 0, 0, 2, 0, 0);
        FjordHaul y = Checks.taught(Checks.road("9 0 0", "horse h pull 43 links 1 iron 99", "log a weight 40", "haul h with 40",
                "wait h at s0 when hour = 2"));
        y.pass(3);
        checks.facts(y, "less by 2, not by 4", 0, 0, 1, 1, 40, 3);
        y.pass(1);
        checks.facts(y, "waits no more: goes", 0, 0, 1, 2, 40, 8);
        y.pass(1);
        checks.facts(y, "rests by 4", 0, 0, 1, 2, 40, 4);
    }

    private static void theLastHaulAndWait() {
        FjordHaul x = Checks.taught(Checks.road("9 0 0", STRONG, "log a weight 9") + "haul h with 9 when 2 < 1;".repeat(11)
                + "haul h with 9;" + "wait h at s0 when 2 < 1;".repeat(11) + "wait h at s0 when hour = 2;");
        x.pass(3);
        checks.facts(x, "the 12th haul and the 12th wait", 0, 0, 1, 1, 9, 0);
    }

    /** "if what it needs is more than the iron of its chain" */
    private static void breaksAtMoreThanTheIron() {
        for (int load = 39; load <= 42; load++) {
            FjordHaul x = Checks.taught(Checks.road("2 0 0", "horse h pull 99 links 2 iron 40", "log a weight " + (load - 4),
                    "log b weight 4", "haul h with 60"));
            x.pass(2);
            boolean broken = load > 40;
            checks.facts(x, "load " + load, 0, 0, broken ? 0 : 1, 1, broken ? 0 : load, broken ? 0 : load / 8);
            checks.due("links with load " + load, x.horse(0, 1), broken ? 1 : 2);
            checks.due("chains that broke with load " + load, x.count(11), broken ? 1 : 0);
            checks.due("fallen with load " + load, x.stretch(0, 4), broken ? 2 : 0);
            checks.due("state with load " + load, x.log(1, 1), broken ? 2 : 1);
            checks.due("where with load " + load, x.log(1, 2), 0);
        }
        FjordHaul both = Checks.taught(Checks.road("2 0 0", "horse h pull 40 links 1 iron 40", "log a weight 41", "haul h with 41"));
        both.pass(2);
        checks.due("the chain comes ahead of the pull", both.count(11), 1);
    }

    /** "with long - 1 less the units gone so far as units gone" */
    private static void unitsBehindABreak() {
        for (int length = 7; length <= 9; length++) {
            // The frost of hour 6 lets the need be 40, or 41, from hour 7 on; six units are gone then.
            FjordHaul x = Checks.taught(Checks.road(length + " 0 9", "horse h pull 99 links 1 iron 40", "log a weight 48", "haul h with 48"));
            x.pass(1);
            x.setWeather(-1);
            x.pass(6);
            checks.facts(x, "ahead of the break", 0, 0, 1, 6, 48, 24);
            checks.due("the need", x.needs(0, 0), 40);
            x.pass(1);
            checks.facts(x, "as much as it holds", 0, 0, length == 7 ? 0 : 1, length == 7 ? 0 : 7);
            FjordHaul more = Checks.taught(Checks.road(length + " 0 9", "horse h pull 99 links 1 iron 40", "log a weight 49", "haul h with 49"));
            more.pass(1);
            more.setWeather(-1);
            more.pass(7);
            checks.facts(more, "behind the break", 0, 0, 0, length - 7, 0, 30);
            more.pass(6);
            checks.facts(more, "six units back", 0, 0, 0, length - 1, 0, 24);
            more.pass(1);
            checks.facts(more, "seven units back", 0, -1, 0, 0, 0, 23);
        }
        for (int length = 1; length <= 9; length += 4) {
            FjordHaul y = Checks.taught(Checks.road(length + " 0 0", "horse h pull 99 links 1 iron 8", "log a weight 9", "haul h with 9"));
            y.pass(2);
            checks.facts(y, "behind a break at once", 0, 0, 0, length - 1, 0, 0);
            y.pass(1);
            checks.facts(y, "one unit was to go", 0, -1, 0, 0, 0, 0);
        }
    }

    /** "the horse is on its way back from then on, whoever is there" */
    private static void breaksWhoeverIsThere() {
        FjordHaul x = Checks.taught(Checks.road("4 0 0", "horse h pull 99 links 1 iron 8", "horse g pull 99 links 1 iron 9 bell",
                "log a weight 9", "log b weight 9", "haul h with 9", "haul g with 9"));
        x.pass(2);
        checks.facts(x, "on its way back", 0, 0, 0, 3, 0, 0);
        checks.facts(x, "on its way down there", 1, 0, 1, 1, 9, 1);
        checks.due("both are there", x.stretch(0, 3), 2);
        x.pass(1);
        checks.facts(x, "home", 0, -1, 0, 0);
        checks.facts(x, "goes on", 1, 0, 1, 2);
    }

    /** "if what it needs is more than its pull less how tired it is" */
    private static void restsAtMoreThanItsPull() {
        for (int pull = 38; pull <= 42; pull++) {
            FjordHaul x = Checks.taught(Checks.road("9 0 0", "horse h pull " + pull + " links 1 iron 99", "log a weight 40", "haul h with 40"));
            x.pass(2);
            checks.facts(x, "pull " + pull, 0, 0, 1, pull < 40 ? 0 : 1, 40, pull < 40 ? 0 : 5);
        }
        for (int pull = 44; pull <= 46; pull++) {
            FjordHaul x = Checks.taught(Checks.road("9 0 0", "horse h pull " + pull + " links 1 iron 99", "log a weight 40", "haul h with 40"));
            x.pass(3);
            checks.facts(x, "tired by 5, pull " + pull, 0, 0, 1, pull < 45 ? 1 : 2, 40, pull < 45 ? 1 : 10);
        }
    }

    /** "it rests: it is less tired by 4" */
    private static void restsBy4() {
        int[] loads = {8, 24, 32, 40, 48};
        for (int load : loads) {
            int tired = load / 8;
            FjordHaul x = Checks.taught(Checks.road("9 0 0", "horse h pull " + (load + tired - 1) + " links 1 iron 99",
                    "log a weight " + load, "haul h with " + load));
            x.pass(2);
            checks.facts(x, "tired", 0, 0, 1, 1, load, tired);
            x.pass(1);
            checks.facts(x, "rested from " + tired, 0, 0, 1, 1, load, tired < 4 ? 0 : tired - 4);
            x.pass(1);
            checks.facts(x, "goes on", 0, 0, 1, 2, load, tired < 4 ? tired : 2 * tired - 4);
        }
        FjordHaul weak = Checks.taught(Checks.road("9 0 0", "horse h pull 8 links 1 iron 99", "log a weight 9", "haul h with 9"));
        weak.pass(120);
        checks.facts(weak, "rests forever", 0, 0, 1, 0, 9, 0);
    }

    /** "by 2 on its way down a stretch with a slope of less than 0 and a frost of more than 5" */
    private static void goesBy2() {
        int[][] roads = {{-1, 6, 2}, {-1, 5, 1}, {0, 6, 1}, {0, 9, 1}, {1, 9, 1}, {-9, 9, 2}, {-9, 0, 1}, {-9, 6, 2}, {0, 5, 1}};
        for (int[] road : roads) {
            FjordHaul x = Checks.taught(Checks.road("9 " + road[0] + " " + road[1], STRONG, "log a weight 5", "haul h with 5"));
            x.pass(2);
            checks.facts(x, "slope " + road[0] + " frost " + road[1], 0, 0, 1, road[2], 5);
            x.pass(1);
            checks.facts(x, "again", 0, 0, 1, 2 * road[2], 5);
        }
        FjordHaul back = Checks.taught(Checks.road("4 -1 9", STRONG, "log a weight 5", "haul h with 5"));
        back.pass(3);
        checks.facts(back, "at the raft", 0, 0, 0, 0);
        back.pass(1);
        checks.facts(back, "by 1 on its way back", 0, 0, 0, 1);
    }

    /** "it is more tired by what it needs / 8 on its way down" */
    private static void tiredByAnEighth() {
        int[] needs = {1, 7, 8, 9, 15, 16, 55, 56, 60};
        int[] tired = {0, 0, 1, 1, 1, 2, 6, 7, 7};
        for (int i = 0; i < needs.length; i++) {
            FjordHaul x = Checks.taught(Checks.road("9 0 0", STRONG, "log a weight " + needs[i], "haul h with 60"));
            x.pass(2);
            checks.facts(x, "need " + needs[i], 0, 0, 1, 1, needs[i], tired[i]);
        }
        FjordHaul frost = Checks.taught(Checks.road("9 0 9", STRONG, "log a weight 16", "haul h with 60"));
        frost.pass(2);
        checks.facts(frost, "what it needs, not what it is loaded with", 0, 0, 1, 1, 16, 0);
        FjordHaul glides = Checks.taught(Checks.road("9 -1 6", STRONG, "log a weight 24", "haul h with 60"));
        glides.pass(2);
        checks.facts(glides, "once, not for each unit", 0, 0, 1, 2, 24, 1);
    }

    /** "less by 1 on its way back (0 to 60)" */
    private static void lessTiredOnTheWayBack() {
        int[] loads = {7, 8, 16, 24};
        int[][] tired = {{0, 0, 0, 0}, {3, 2, 1, 0}, {6, 5, 4, 3}, {9, 8, 7, 6}};
        for (int i = 0; i < loads.length; i++) {
            FjordHaul x = Checks.taught(Checks.road("3 0 0", STRONG, "log a weight " + loads[i], "haul h with 60"));
            x.pass(4);
            for (int hour = 0; hour < 4; hour++) {
                checks.due("tired by " + loads[i] + " on its way back " + hour, x.horse(0, 8), tired[i][hour]);
                x.pass(1);
            }
            checks.due("no less at the forest", x.horse(0, 8), tired[i][3]);
        }
        FjordHaul zero = Checks.taught(Checks.road("9 0 0", STRONG, "log a weight 9", "haul h with 60 when hour = 0",
                "wait h at s0 when raft > 0 and hour < 20"));
        zero.pass(24);
        checks.facts(zero, "0 stays 0", 0, 0, 0, 4, 0, 0);
    }

    /** "It is tired by 0 (at first) to 60." */
    private static void tired0To60() {
        FjordHaul x = Checks.taught(Checks.road("9 0 0,9 0 0,1 0 0,9 2 0", STRONG, "log a weight 30", "haul h with 30"));
        x.pass(20);
        checks.facts(x, "19 times 3", 0, 3, 1, 0, 30, 57);
        x.pass(1);
        checks.facts(x, "57 and 4 are 60", 0, 3, 1, 1, 30, 60);
        x.pass(1);
        checks.facts(x, "60 stays 60", 0, 3, 1, 2, 30, 60);
        FjordHaul y = Checks.taught(Checks.road("9 0 0,9 0 0", STRONG, "log a weight 32", "haul h with 32"));
        y.pass(15);
        checks.due("14 times 4", y.horse(0, 8), 56);
        y.pass(1);
        checks.due("56 and 4 are just 60", y.horse(0, 8), 60);
        y.pass(1);
        checks.due("64 are 60", y.horse(0, 8), 60);
        FjordHaul z = Checks.taught(Checks.road("9 0 0,9 0 0", "horse h pull 91 links 1 iron 99", "log a weight 32", "haul h with 32"));
        z.pass(16);
        checks.due("60 with a pull of 91", z.horse(0, 8), 60);
        z.pass(1);
        checks.due("rests from 60", z.horse(0, 8), 56);
    }

    // ---- "If it has gone as many units as the stretch is long, or more"

    private static void theEndOfALongRoad() {
        FjordHaul x = Checks.taught(Checks.road("1 0 0,2 0 0,1 0 0", STRONG, "log a weight 9", "log b weight 8", "haul h with 17"));
        int[][] facts = {{0, 1, 0}, {1, 1, 0}, {1, 1, 1}, {2, 1, 0}, {2, 0, 0}, {1, 0, 0}, {1, 0, 1}, {0, 0, 0}, {-1, 0, 0}, {-1, 0, 0}};
        for (int hour = 0; hour < facts.length; hour++) {
            int came = x.pass(1);
            checks.due("weight that came in hour " + hour, came, hour == 4 ? 17 : 0);
            checks.facts(x, "behind hour " + hour, 0, facts[hour]);
            checks.due("horses on stretches", x.count(9), facts[hour][0] < 0 ? 0 : 1);
            for (int s = 0; s < 3; s++) {
                checks.due("horses on " + s + " behind hour " + hour, x.stretch(s, 3), facts[hour][0] == s ? 1 : 0);
            }
        }
        checks.due("brought", x.horse(0, 9), 17);
        checks.due("hour at the raft", x.log(0, 3), 4);
        checks.due("of the other too", x.log(1, 3), 4);
        checks.due("state at the raft", x.log(1, 1), 3);
        checks.due("no more a horse", x.log(1, 2), -1);
    }

    /** The only stretch is the last one on the way down, and the first one on the way back. */
    private static void theEndOfARoadOfOne() {
        FjordHaul x = Checks.taught(Checks.road("1 0 0", STRONG, "log a weight 9", "log b weight 8", "haul h with 9"));
        int[][] facts = {{0, 1, 0, 9}, {0, 0, 0, 0}, {-1, 0, 0, 0}, {0, 1, 0, 8}, {0, 0, 0, 0}, {-1, 0, 0, 0}};
        for (int hour = 0; hour < facts.length; hour++) {
            x.pass(1);
            checks.facts(x, "behind hour " + hour, 0, facts[hour]);
        }
        checks.due("brought in all", x.horse(0, 9), 17);
        checks.due("the first in hour 1", x.log(0, 3), 1);
        checks.due("the second in hour 4", x.log(1, 3), 4);
        for (int length = 1; length <= 4; length++) {
            FjordHaul y = Checks.taught(Checks.road(length + " -1 9", STRONG, "log a weight 9", "haul h with 9"));
            y.pass(1 + length / 2);
            checks.facts(y, "glided along " + length, 0, 0, length % 2 == 0 ? 0 : 1, length % 2 == 0 ? 0 : length - 1);
            y.pass(1);
            checks.due("as many or more: at the raft", y.count(6), 9);
        }
    }

    /** "it is on its way back on this stretch, whoever is there" */
    private static void turnsWhoeverIsThere() {
        FjordHaul x = Checks.taught(Checks.road("2 0 0", STRONG, "horse g pull 9 links 1 iron 9 bell", "log a weight 1", "log b weight 1",
                "haul h with 1", "haul g with 1 when hour = 1"));
        x.pass(3);
        checks.facts(x, "turned", 0, 0, 0, 0);
        checks.facts(x, "comes down there", 1, 0, 1, 1);
        x.pass(1);
        checks.facts(x, "goes back", 0, 0, 0, 1);
        checks.facts(x, "turns too", 1, 0, 0, 0);
    }

    /** "if not, it stands at the end: its units gone are long - 1 (it is more or less tired all the same)" */
    private static void unitsAtTheEnd() {
        // h is turned on s1 from hour 3 on, waits there, and lets nobody come.
        for (int length = 1; length <= 5; length++) {
            FjordHaul x = Checks.taught(Checks.road(length + " -1 6,1 0 0", "horse h pull 99 links 1 iron 99", "horse g pull 99 links 1 iron 99",
                    "log a weight 1", "log b weight 26", "haul h with 1", "haul g with 26 when hour = 5", "wait h at s1 when raft > 0"));
            x.pass(5);
            checks.facts(x, "h is turned", 0, 1, 0, 0);
            x.pass(1 + (length + 1) / 2);
            checks.facts(x, "at the end of " + length, 1, 0, 1, length - 1, 26, 2 * ((length + 1) / 2));
            x.pass(1);
            checks.facts(x, "still there, more tired", 1, 0, 1, length - 1, 26, 2 * ((length + 1) / 2) + 2);
        }
        for (int length = 1; length <= 4; length++) {
            FjordHaul x = Checks.taught(Checks.road("1 0 0," + length + " 0 0", "horse h pull 99 links 1 iron 99", "horse g pull 99 links 1 iron 99",
                    "log a weight 60", "log b weight 1", "haul h with 60", "haul g with 1 when hour = " + (length + 1), "wait g at s0 when 1 < 2"));
            x.pass(2 + length);
            checks.facts(x, "h is turned on " + length, 0, 1, 0, 0, 0, 7 * (1 + length));
            x.pass(length);
            checks.facts(x, "h stands at its end", 0, 1, 0, length - 1, 0, 7 * (1 + length) - length);
            x.pass(1);
            checks.facts(x, "and is less tired", 0, 1, 0, length - 1, 0, 7 * (1 + length) - length - 1);
        }
    }

    // ---- "It can go to a stretch, if there is no horse there on the other way"

    /** g comes to s1 in hour 5; h is there, on its way down or back, or is not. */
    private static FjordHaul meeting(String bells, String rest) {
        return Checks.taught(Checks.road("2 0 0,2 0 0", "horse g pull 99 links 1 iron 99" + (bells.charAt(0) == '1' ? " bell" : ""),
                "horse h pull 99 links 1 iron 99" + (bells.charAt(1) == '1' ? " bell" : ""), "log a weight 8", "log b weight 8") + rest);
    }

    private static void noHorseOnTheOtherWay() {
        for (String bells : new String[] {"00", "01", "10", "11"}) {
            FjordHaul none = meeting(bells, "haul g with 8;");
            none.pass(3);
            checks.facts(none, "nobody is there, bells " + bells, 0, 1, 1, 0, 8, 2);
            FjordHaul same = meeting(bells, "haul h with 8;haul g with 8;");
            same.pass(3);
            checks.facts(same, "both on the same way, bells " + bells, 0, 1, 1, 0, 8, 2);
            checks.facts(same, "the other too, bells " + bells, 1, 1, 1, 0, 8, 2);
            same.pass(4);
            checks.facts(same, "both back on the same way, bells " + bells, 0, 0, 0, 0, 0, 2);
            checks.facts(same, "the other back too, bells " + bells, 1, 0, 0, 0, 0, 2);
        }
    }

    /** "or if it has a bell, and none of those there on the other way has one" */
    private static void oneWithABell() {
        for (String bells : new String[] {"00", "01", "10", "11"}) {
            FjordHaul x = meeting(bells, "haul h with 8;haul g with 8 when hour = 4;");
            x.pass(6);
            checks.facts(x, "g, bells " + bells, 0, 0, 1, 1, 8, 1);
            checks.facts(x, "h, bells " + bells, 1, 1, 0, 1, 0, 3);
            x.pass(1);
            boolean goes = bells.equals("10");
            checks.facts(x, "g moved, bells " + bells, 0, goes ? 1 : 0, 1, goes ? 0 : 1, 8, 2);
            boolean comes = bells.equals("01");
            checks.facts(x, "h moved, bells " + bells, 1, comes ? 0 : 1, 0, comes ? 0 : 1, 0, goes ? 3 : 2);
        }
    }

    /** Two are on the other way, and one of them has a bell or none has. */
    private static void noneOfThoseThereHasOne() {
        for (String bells : new String[] {"000", "100", "101", "110", "111", "011"}) {
            FjordHaul x = Checks.taught(Checks.road("1 0 0,9 0 0", "horse g pull 99 links 1 iron 99" + (bells.charAt(0) == '1' ? " bell" : ""),
                    "horse h pull 99 links 1 iron 99" + (bells.charAt(1) == '1' ? " bell" : ""),
                    "horse i pull 99 links 1 iron 99" + (bells.charAt(2) == '1' ? " bell" : ""),
                    "log a weight 8", "log b weight 8", "log c weight 8", "haul h with 8", "haul i with 8", "haul g with 8 when hour = 12"));
            x.pass(13);
            checks.facts(x, "h on its way back", 1, 1, 0, 2);
            checks.facts(x, "i on its way back", 2, 1, 0, 2);
            checks.facts(x, "g at the end", 0, 0, 1, 0);
            x.pass(1);
            boolean goes = bells.equals("100");
            checks.facts(x, "g, bells " + bells, 0, goes ? 1 : 0, 1, 0, 8, 1);
            checks.facts(x, "h, bells " + bells, 1, 1, 0, goes ? 2 : 3);
            checks.facts(x, "i, bells " + bells, 2, 1, 0, goes ? 2 : 3);
            x.pass(1);
            checks.facts(x, "h in the next hour, bells " + bells, 1, 1, 0, goes ? 3 : 4);
        }
    }

    /** "these have moved in this hour then (if they had not yet, they do not move any more)" */
    private static void theyHaveMovedThen() {
        String[] lines = {"horse f pull 99 links 1 iron 99", "horse g pull 99 links 1 iron 99 bell", "horse h pull 99 links 1 iron 99",
            "horse i pull 99 links 1 iron 99", "log a weight 8", "log b weight 8", "log c weight 8", "log d weight 8",
            "haul f with 8 when hour = 0", "haul h with 8 when hour = 0", "haul i with 8 when hour = 11", "haul g with 8 when hour = 12"};
        FjordHaul x = Checks.taught(Checks.road("1 0 0,9 0 0", lines));
        x.pass(13);
        checks.facts(x, "f on its way back", 0, 1, 0, 2);
        checks.facts(x, "h on its way back", 2, 1, 0, 2);
        checks.facts(x, "i without a bell stands", 3, 0, 1, 0);
        checks.facts(x, "g with a bell is hauled", 1, 0, 1, 0);
        x.pass(1);
        checks.facts(x, "g comes", 1, 1, 1, 0);
        checks.facts(x, "f had moved", 0, 1, 0, 3);
        checks.facts(x, "h does not move any more", 2, 1, 0, 2);
        checks.facts(x, "i moves, but stands", 3, 0, 1, 0, 8, 2);
        x.pass(1);
        checks.facts(x, "h moves in the next hour", 2, 1, 0, 3);
        checks.facts(x, "f too", 0, 1, 0, 4);
    }

    // ---- 3. "In hours that can be divided by 6 the frost of each stretch is more by the weather (0 to 9)."

    private static void frostInHoursDividedBy6() {
        FjordHaul x = Checks.taught(Checks.road("1 0 0,1 0 5"));
        x.setWeather(1);
        for (int hour = 0; hour < 25; hour++) {
            x.pass(1);
            int times = hour / 6 + 1;
            checks.due("frost behind hour " + hour, x.stretch(0, 2), times);
            checks.due("of the other behind hour " + hour, x.stretch(1, 2), Math.min(9, 5 + times));
            checks.due("the hour is 1 greater", x.count(0), hour + 1);
        }
        FjordHaul later = new FjordHaul();
        later.pass(3);
        Checks.teach(later, Checks.road("1 0 0"));
        later.setWeather(2);
        later.pass(3);
        checks.due("hours 3 to 5 cannot be divided", later.stretch(0, 2), 0);
        later.pass(1);
        checks.due("hour 6 can", later.stretch(0, 2), 2);
    }

    private static void frost0To9() {
        for (int weather = -3; weather <= 3; weather++) {
            for (int frost = 0; frost <= 9; frost++) {
                FjordHaul x = Checks.taught(Checks.road("1 0 " + frost));
                x.setWeather(weather);
                x.pass(1);
                int want = frost + weather < 0 ? 0 : frost + weather > 9 ? 9 : frost + weather;
                checks.due("frost " + frost + " weather " + weather, x.stretch(0, 2), want);
            }
        }
    }

    // ---- "In tests and sums hour is the hour, ..."

    /** b goes as soon as its test holds: in this hour, not in the one ahead or behind. */
    private static void wordsAsTheyAreNow() {
        String[] tests = {"hour >= 0", "hour >= 1", "hour > 1", "pile < 59", "load a >= 9", "raft >= 9", "raft > 0 and load a = 0",
            "tired a >= 1", "tired a >= 3", "links a < 2", "frost s0 > 0", "frost s0 > 1", "weather > 0", "weather > 1", "fallen s0 = 0", "fallen s0 > 0"};
        int[] hours = {0, 1, 2, 0, 0, 4, 4, 2, 4, -1, 1, 7, 0, -1, 0, -1};
        for (int i = 0; i < tests.length; i++) {
            FjordHaul x = Checks.taught(Checks.road("3 0 0", "horse a pull 99 links 2 iron 99", "horse b pull 99 links 2 iron 99",
                    "log a weight 9", "log b weight 50", "haul a with 9", "haul b with 50 when " + tests[i]));
            x.setWeather(1);
            int gone = -1;
            for (int hour = 0; hour < 9 && gone < 0; hour++) {
                x.pass(1);
                gone = x.horse(1, 4) >= 0 ? hour : -1;
            }
            checks.due("the first hour with " + tests[i], gone, hours[i]);
        }
        String[] later = {"fallen s0 >= 1", "fallen s0 = 2", "fallen s1 > 0", "links a <= 1", "links a < 1", "load a > 0"};
        int[] when = {2, 2, -1, 2, -1, 0};
        for (int i = 0; i < later.length; i++) {
            FjordHaul x = Checks.taught(Checks.road("3 0 0,1 0 0", "horse a pull 99 links 2 iron 8", "horse b pull 99 links 2 iron 99",
                    "log a weight 5", "log b weight 4", "log c weight 50", "haul a with 9", "haul b with 50 when " + later[i]));
            int gone = -1;
            for (int hour = 0; hour < 9 && gone < 0; hour++) {
                x.pass(1);
                gone = x.horse(1, 4) >= 0 ? hour : -1;
            }
            checks.due("the first hour with " + later[i], gone, when[i]);
        }
    }
}
