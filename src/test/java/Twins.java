/**
 * Pairs of objects that were made the same way: a call is made on one of them alone, and if it has to change
 * nothing, both answer the same from then on, also what is hidden (the tape, the hauls and waits, the error).
 */
final class Twins {
    interface Maker {
        FjordHaul make();
    }

    interface Deed {
        long on(FjordHaul x);
    }

    private static final int HOURS = 26;

    /** A list of other things than those of the road, which teach finds whole on the tape. */
    static final String NEXT = "stretch t long 3 slope - 4 frost 8;horse k pull 44 links 3 iron 30 bell;"
            + "log d weight 12;log e weight 21;haul k with 25 when not hour < 4;wait k at t when hour = 7;";

    private final Checks checks;

    Twins(Checks checks) {
        this.checks = checks;
    }

    /** Nothing was told and done yet. */
    static FjordHaul fresh() {
        return new FjordHaul();
    }

    /** Horses on all ways, logs in all states, a broken chain, an error behind, and a list on the tape. */
    static FjordHaul busy() {
        FjordHaul x = Checks.taught(Checks.road("2 0 3,3 2 1,2 -1 6", "horse a pull 60 links 3 iron 40 bell",
                "horse b pull 50 links 4 iron 22", "horse c pull 9 links 1 iron 99", "log k weight 20", "log l weight 19",
                "log m weight 8", "log n weight 30", "log o weight 5", "log p weight 60", "log q weight 7", "log r weight 26",
                "haul a with 20 when hour < 9", "haul b with 25 + fallen s1", "haul c with 8 when hour > 3", "haul a with 28",
                "wait b at s0 when tired b > 3", "wait a at s2 when load a > 0 and hour < 8", "wait a at s1 when hour = 5"));
        x.setWeather(-2);
        x.pass(10);
        Checks.teach(x, "log k weight 61;");
        Checks.write(x, NEXT);
        return x;
    }

    /** As much of all as can be told, and the tape is full. */
    static FjordHaul full() {
        FjordHaul x = Checks.taught(fullList());
        x.setWeather(3);
        x.pass(11);
        Checks.write(x, NEXT + " ".repeat(2000 - NEXT.length()));
        return x;
    }

    static String fullList() {
        StringBuilder text = new StringBuilder();
        for (int i = 0; i < 8; i++) {
            text.append("stretch s").append(i).append(" long ").append(1 + i % 3).append(" slope ").append(i).append(" frost 9;");
        }
        for (int i = 0; i < 6; i++) {
            text.append("horse h").append(i).append(" pull ").append(90 + i).append(" links 9 iron ").append(10 + 10 * i).append(";");
        }
        for (int i = 0; i < 20; i++) {
            text.append("log l").append(i).append(" weight ").append(1 + i).append(";");
        }
        for (int i = 0; i < 12; i++) {
            text.append("haul h").append(i % 6).append(" with ").append(40 + i).append(";");
            text.append("wait h").append(i % 6).append(" at s").append(i % 8).append(" when hour = ").append(i + 6).append(";");
        }
        return text.toString();
    }

    /** The call throws exactly this, and changes nothing. */
    void refuses(String what, Class<? extends RuntimeException> want, Maker maker, Deed deed) {
        FjordHaul x = maker.make();
        checks.raises(x, what, want, () -> deed.on(x));
        alike(what, x, maker.make());
    }

    /** The call answers this, and changes nothing. */
    void only(String what, long want, Maker maker, Deed deed) {
        FjordHaul x = maker.make();
        checks.due(what, deed.on(x), want);
        alike(what, x, maker.make());
    }

    /** Both answer the same now, in the next hours, and when they read their tape. */
    void alike(String what, FjordHaul x, FjordHaul y) {
        checks.due(what + ": errorAt is as before", x.errorAt(), y.errorAt());
        checks.due(what + ": digest is as before", x.digest(), y.digest());
        goOn(what + ": in the next hours", x, y);
        checks.due(what + ": teach reads the tape as before", x.teach(), y.teach());
        checks.due(what + ": errorAt of the tape is as before", x.errorAt(), y.errorAt());
        goOn(what + ": with what the tape told", x, y);
    }

    private void goOn(String what, FjordHaul x, FjordHaul y) {
        for (int hour = 0; hour < HOURS; hour++) {
            checks.due(what + ", pass " + hour, x.pass(1), y.pass(1));
            checks.due(what + ", digest " + hour, x.digest(), y.digest());
        }
    }
}
