/** Promises 15 to 21: what would be, the mean, and the digest. */
public final class ForesightTest {
    private static final String TRIPS = "stretch s long 2 slope 0 frost 0;horse h pull 99 links 1 iron 99;"
            + "log a weight 10;log b weight 20;log c weight 7;haul h with 20;";
    private static final Checks checks = new Checks();

    public static void main(String[] args) {
        arrives();
        breaks();
        foresee();
        advise();
        choose();
        mean();
        digest();
        nothingIsChanged();
        wrongNumbers();
        fullUse();
        checks.end();
    }

    /** The trips take 5 hours each: a and c first, then b. */
    private static void arrives() {
        FjordHaul x = Checks.taught(TRIPS);
        checks.due("a", x.arrives(0), 3);
        checks.due("b", x.arrives(1), 8);
        checks.due("c", x.arrives(2), 3);
        x.pass(2);
        checks.due("a from then on", x.arrives(0), 1);
        x.pass(1);
        checks.due("a is there", x.arrives(0), 0);
        checks.due("b is not yet", x.arrives(1), 5);
        FjordHaul y = Checks.taught("stretch s long 1 slope 0 frost 0;horse h pull 99 links 1 iron 99;log a weight 1;"
                + "log b weight 2;haul h with 1 when hour = 198;haul h with 2 when hour = 209;");
        checks.due("behind 200 hours", y.arrives(0), 200);
        checks.due("not by then", y.arrives(1), -1);
        Checks.teach(y, "stretch s long 2 slope 0 frost 0;horse h pull 99 links 1 iron 99;log a weight 1;haul h with 1 when hour = 198;");
        checks.due("behind 201 hours", y.arrives(0), -1);
    }

    private static void breaks() {
        String text = "stretch s long 2 slope 0 frost 0;stretch t long 2 slope 9 frost 0;horse h pull 99 links 3 iron 20;"
                + "horse g pull 99 links 1 iron 20;log a weight 12;log b weight 12;haul h with 12 when hour >= H;";
        FjordHaul x = Checks.taught(text.replace("H", "0"));
        checks.due("breaks", x.breaks(0), 4);
        checks.due("one that does not haul", x.breaks(1), -1);
        x.pass(3);
        checks.due("in the next hour", x.breaks(0), 1);
        x.pass(1);
        checks.due("for the first time from now on", x.breaks(0), 7);
        FjordHaul y = Checks.taught(text.replace("H", "196"));
        checks.due("behind 200 hours", y.breaks(0), 200);
        FjordHaul z = Checks.taught(text.replace("H", "197"));
        checks.due("not by then", z.breaks(0), -1);
        z.pass(1);
        checks.due("an hour on", z.breaks(0), 200);
    }

    private static void foresee() {
        FjordHaul x = Checks.taught("stretch s long 2 slope 0 frost 0;horse h pull 99 links 3 iron 20;horse g pull 99 links 3 iron 10;"
                + "log a weight 12;log b weight 11;log c weight 6;log d weight 40;haul h with 12;haul g with 18;");
        checks.due("nothing in 2", x.foresee(2, 0), 0);
        checks.due("fallen in 2", x.foresee(2, 1), 2);
        checks.due("broken in 2", x.foresee(2, 2), 1);
        checks.due("pile in 2", x.foresee(2, 3), 40);
        checks.due("weight in 3", x.foresee(3, 0), 12);
        x.pass(3);
        checks.due("only what comes in them", x.foresee(120, 0), 0);
        checks.due("all that are fallen then", x.foresee(120, 1), 2);
        checks.due("only what breaks in them", x.foresee(120, 2), 0);
        checks.due("pile then", x.foresee(1, 3), 40);
        // The horse is tired by 8 and rests in every other hour; if it were not, it would come two hours earlier.
        FjordHaul tired = Checks.taught("stretch s long 5 slope 0 frost 0;horse h pull 36 links 1 iron 99;log a weight 32;haul h with 32;");
        tired.pass(3);
        checks.due("tired", tired.horse(0, 8), 8);
        checks.due("5 hours are not enough", tired.foresee(5, 0), 0);
        checks.due("6 are", tired.foresee(6, 0), 32);
        checks.due("as it comes", tired.pass(5), 0);
        checks.due("as it comes in the last", tired.pass(1), 32);
        FjordHaul cold = Checks.taught("stretch s long 1 slope 0 frost 0;horse h pull 14 links 1 iron 99;log a weight 16;haul h with 16;");
        cold.setWeather(2);
        checks.due("the weather makes the frost", cold.foresee(2, 0), 16);
        checks.due("and lets it arrive", cold.arrives(0), 2);
    }

    private static void advise() {
        FjordHaul x = Checks.taught("stretch s long 1 slope 0 frost 3;horse h pull 10 links 1 iron 99;log a weight 16;haul h with 16;");
        checks.due("too early for any: the least", x.advise(1), -3);
        checks.due("only 3 makes the frost of 6 at once", x.advise(2), 3);
        checks.due("and 2 in hour 6, to move in hour 7", x.advise(7), 3);
        checks.due("less is enough by hour 7", x.advise(8), 2);
        checks.due("by hour 13", x.advise(14), 1);
        x.setWeather(3);
        x.pass(1);
        checks.due("any will do, but of the least", x.advise(1), -3);
        FjordHaul y = Checks.taught("stretch s long 1 slope 0 frost 9;horse h pull 99 links 1 iron 7;log a weight 16;haul h with 16;");
        checks.due("the chain needs frost", y.advise(80), 0);
    }

    private static void choose() {
        String text = "stretch s long 1 slope 0 frost 0;horse h pull 99 links 1 iron 99;horse g pull 99 links 1 iron 20;"
                + "horse f pull 99 links 1 iron 20;horse e pull 99 links 1 iron 19;log a weight 10;log b weight 30;log c weight 29;"
                + "log d weight 31;log e weight 30;haul h with 10 when hour = 0;haul g with 30;haul f with 29;haul e with 30 when hour > 0;";
        FjordHaul x = Checks.taught(text);
        checks.due("too early", x.choose(1), -1);
        checks.due("the one with most", x.choose(2), 1);
        checks.due("iron is as before", x.horse(1, 2), 20);
        x.pass(1);
        checks.due("from then on", x.choose(1), 1);
        FjordHaul y = Checks.taught(text.replace("g with 30", "g with 29").replace("f with 29", "f with 30"));
        checks.due("the second", y.choose(2), 2);
        FjordHaul z = Checks.taught(text.replace("g with 30", "g with 0").replace("f with 29", "f with 30").replace("e with 30", "e with 0"));
        checks.due("no better than 10 more", z.choose(9), 2);
        FjordHaul same = Checks.taught("stretch s long 1 slope 0 frost 0;horse h pull 99 links 1 iron 20;horse g pull 99 links 1 iron 20;"
                + "log a weight 30;log b weight 30;haul h with 30;haul g with 30;");
        checks.due("of several the first", same.choose(9), 0);
        for (int iron = 18; iron <= 22; iron++) {
            FjordHaul exact = Checks.taught("stretch s long 1 slope 0 frost 0;horse h pull 99 links 1 iron " + iron
                    + ";log a weight 30;haul h with 30;");
            checks.due("10 more than " + iron, exact.choose(9), iron < 20 ? -1 : 0);
        }
        FjordHaul over = Checks.taught("stretch s long 1 slope 9 frost 0;horse h pull 99 links 1 iron 95;log a weight 55;haul h with 55;");
        checks.due("an iron of 105 holds 104, but the pull does not", over.choose(9), -1);
        FjordHaul much = Checks.taught("stretch s long 1 slope 8 frost 0;stretch t long 1 slope 0 frost 0;"
                + "horse h pull 99 links 1 iron 90;log a weight 55;haul h with 55;");
        checks.due("an iron of 100 holds 99", much.choose(9), 0);
    }

    private static void mean() {
        FjordHaul x = Checks.taught(TRIPS);
        checks.dueDouble("none", x.mean(), 0.0);
        x.pass(3);
        checks.dueDouble("two", x.mean(), 8.5);
        FjordHaul one = Checks.taught(TRIPS.replace("log c weight 7;", ""));
        one.pass(3);
        checks.dueDouble("one", one.mean(), 10.0);
        x.pass(5);
        checks.dueDouble("three", x.mean(), 37.0 / 3);
    }

    private static void digest() {
        FjordHaul x = Checks.taught(TRIPS);
        x.setWeather(-2);
        x.pass(4);
        x.feed(1, 2, 3, 4, 5);
        long d = 797;
        int[] all = {4, -2, 1, 1, 3, 20, 17, 2, 0, 1, 1, 0, 20,
            2, 0, 0, 1, 0,
            99, 1, 99, 0, 0, 0, 1, 0, 3, 17,
            10, 3, -1, 2, 20, 0, -1, -1, 7, 3, -1, 2};
        for (int number : all) {
            d = d * 31 + number;
        }
        checks.due("digest", x.digest(), d);
    }

    private static void nothingIsChanged() {
        FjordHaul x = Checks.taught(TRIPS);
        x.pass(2);
        x.feed(1, 2, 3, 4, 5);
        long before = x.digest();
        x.arrives(1);
        x.breaks(0);
        x.foresee(99, 3);
        x.advise(80);
        x.choose(80);
        x.mean();
        checks.due("nothing is changed", x.digest(), before);
        checks.due("and it goes on as before", x.pass(1), 17);
        FjordHaul y = Checks.taught("stretch s long 1 slope 0 frost 0;horse h pull 99 links 1 iron 9;log a weight 10;haul h with 10;");
        before = y.digest();
        checks.due("a foreseen break", y.breaks(0), 2);
        checks.due("a foreseen remedy", y.choose(9), 0);
        checks.due("still nothing is changed", y.digest(), before);
    }

    private static void wrongNumbers() {
        FjordHaul x = Checks.taught(TRIPS);
        Class<IndexOutOfBoundsException> index = IndexOutOfBoundsException.class;
        Class<IllegalArgumentException> argument = IllegalArgumentException.class;
        for (int wrong : new int[] {-1, 3, Integer.MIN_VALUE, Integer.MAX_VALUE}) {
            checks.raises(x, "arrives " + wrong, index, () -> x.arrives(wrong));
            checks.raises(x, "breaks " + wrong, index, () -> x.breaks(wrong));
            checks.raises(x, "foresee what " + wrong, index, () -> x.foresee(1, wrong == 3 ? 4 : wrong));
        }
        checks.raises(x, "breaks 1", index, () -> x.breaks(1));
        for (int wrong : new int[] {0, -1, 121, Integer.MIN_VALUE, Integer.MAX_VALUE}) {
            checks.raises(x, "foresee " + wrong, argument, () -> x.foresee(wrong, 0));
            checks.raises(x, "foresee both " + wrong, argument, () -> x.foresee(wrong, 4));
            checks.raises(x, "advise " + wrong, argument, () -> x.advise(wrong == 121 ? 81 : wrong));
            checks.raises(x, "choose " + wrong, argument, () -> x.choose(wrong == 121 ? 81 : wrong));
        }
        checks.due("the most hours", x.foresee(120, 0), 37);
        checks.due("the most hours to advise", x.advise(80), -3);
        checks.due("the most hours to choose", x.choose(80), -1);
    }

    /** The most that one object is asked: nothing may wear out. */
    private static void fullUse() {
        FjordHaul x = Checks.taught(TRIPS);
        FjordHaul y = Checks.taught(TRIPS);
        for (int i = 0; i < 480; i++) {
            checks.due("choose " + i, x.choose(80), -1);
        }
        checks.due("worn by nothing", x.digest(), y.digest());
        for (int i = 0; i < 500; i++) {
            y.pass(120);
        }
        checks.due("hours", y.count(0), 60000);
    }
}
