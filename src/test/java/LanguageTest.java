/** Promises 1 to 5: a new object, the tape, and which lists are right. */
public final class LanguageTest {
    private static final String HORSE = "horse h pull 1 links 1 iron 1;";
    private static final String ROAD = "stretch s long 1 slope 0 frost 0;" + HORSE;
    private static final Checks checks = new Checks();

    public static void main(String[] args) {
        newObject();
        feed();
        feedTakesTheHighestByteFirst();
        trim();
        teachReplaces();
        teachKeepsHourAndWeather();
        teachAgainAndAgain();
        wrongListChangesNothing();
        rightLists();
        wrongTokens();
        longTokens();
        namesThatDiffer();
        depth();
        tokenLimit();
        wrongTokenComesFirst();
        namesToldTwice();
        namesNotTold();
        tooMany();
        outOfRange();
        firstErrorIsTold();
        checks.end();
    }

    private static void newObject() {
        FjordHaul x = new FjordHaul();
        long d = 797;
        for (int what = 0; what < 13; what++) {
            checks.due("new count " + what, x.count(what), 0);
            d *= 31;
        }
        checks.due("new digest", x.digest(), d);
        checks.due("new errorAt", x.errorAt(), -1);
        checks.dueDouble("new mean", x.mean(), 0.0);
        checks.raises(x, "new stretch", IndexOutOfBoundsException.class, () -> x.stretch(0, 0));
        checks.raises(x, "new horse", IndexOutOfBoundsException.class, () -> x.horse(0, 0));
        checks.raises(x, "new log", IndexOutOfBoundsException.class, () -> x.log(0, 0));
        checks.due("new pass", x.pass(7), 0);
        checks.due("new hour behind 7", x.count(0), 7);
        checks.due("new advise", x.advise(80), -3);
        checks.due("new choose", x.choose(80), -1);
        checks.due("new teach", x.teach(), 0);
    }

    private static void feed() {
        FjordHaul x = new FjordHaul();
        for (int i = 1; i <= 100; i++) {
            checks.due("feed " + i, x.feed(i, -i, 0, Integer.MIN_VALUE, Integer.MAX_VALUE), 20 * i);
        }
        checks.raises(x, "feed 101", IllegalStateException.class, () -> x.feed(0, 0, 0, 0, 0));
        x.trim(1981);
        checks.raises(x, "feed to 2001", IllegalStateException.class, () -> x.feed(0, 0, 0, 0, 0));
        x.trim(1980);
        checks.due("feed to 2000", x.feed(0, 0, 0, 0, 0), 2000);
        checks.due("count 12", x.count(12), 2000);
    }

    private static void feedTakesTheHighestByteFirst() {
        FjordHaul x = new FjordHaul();
        x.feed(0x6c6f6720, 0x61207765, 0x69676874, 0x2033373b, 0x20202020);
        checks.due("log a weight 37;", x.teach(), 0);
        checks.due("its weight", x.log(0, 0), 37);
    }

    private static void trim() {
        FjordHaul x = new FjordHaul();
        checks.due("trim nothing", x.trim(0), 0);
        checks.raises(x, "trim 1 of 0", IllegalArgumentException.class, () -> x.trim(1));
        Checks.write(x, "log a weight 5; log b weight 6;");
        checks.raises(x, "trim -1", IllegalArgumentException.class, () -> x.trim(-1));
        checks.raises(x, "trim 32", IllegalArgumentException.class, () -> x.trim(32));
        checks.raises(x, "trim least", IllegalArgumentException.class, () -> x.trim(Integer.MIN_VALUE));
        checks.raises(x, "trim most", IllegalArgumentException.class, () -> x.trim(Integer.MAX_VALUE));
        checks.due("trim all", x.trim(31), 31);
        checks.due("trim", x.trim(15), 15);
        checks.due("tape", x.count(12), 15);
        checks.due("teach the rest", x.teach(), 0);
        checks.due("logs", x.count(4), 1);
    }

    private static void teachReplaces() {
        FjordHaul x = Checks.taught("stretch a long 1 slope 0 frost 0;horse h pull 9 links 1 iron 1;"
                + "log a weight 3;log b weight 2;haul h with 3;");
        x.pass(2);
        checks.due("broken", x.count(11), 1);
        checks.due("tape is empty", x.count(12), 0);
        checks.due("teach anew", Checks.teach(x, "log c weight 9;"), 0);
        checks.due("stretches", x.count(2), 0);
        checks.due("horses", x.count(3), 0);
        checks.due("logs", x.count(4), 1);
        checks.due("broken begins anew", x.count(11), 0);
        checks.due("fallen begins anew", x.count(8), 0);
        checks.due("weight", x.count(5), 9);
        checks.due("teach nothing", x.teach(), 0);
        checks.due("no logs", x.count(4), 0);
    }

    private static void teachKeepsHourAndWeather() {
        FjordHaul x = Checks.taught(ROAD + "log a weight 1;haul h with 1;");
        x.setWeather(-2);
        x.pass(5);
        checks.due("raft", x.count(6), 1);
        Checks.teach(x, ROAD + "log a weight 1;");
        checks.due("hour stays", x.count(0), 5);
        checks.due("weather stays", x.count(1), -2);
        checks.due("raft begins anew", x.count(6), 0);
        checks.due("brought begins anew", x.horse(0, 9), 0);
        checks.due("raft hour begins anew", x.log(0, 3), -1);
        x.pass(9);
        checks.due("no haul is left", x.count(5), 1);
    }

    private static void wrongListChangesNothing() {
        FjordHaul x = Checks.taught(ROAD + "log a weight 1;log b weight 1;haul h with 1;");
        x.pass(2);
        long before = x.digest();
        checks.due("wrong list", Checks.teach(x, "log b weight 1; log c weight 0;"), 5);
        checks.due("errorAt", x.errorAt(), 29);
        checks.due("all stays", x.digest(), before);
        checks.due("wrong token", Checks.teach(x, "log b weight 1; stretch"), 1);
        checks.due("errorAt the end", x.errorAt(), 23);
        checks.due("all stays again", x.digest(), before);
        x.feed(0, 0, 0, 0, 0);
        checks.due("errorAt stays with feed", x.errorAt(), 23);
        x.trim(0);
        checks.due("the hauls stay", x.pass(8), 1);
        checks.due("right behind wrong", Checks.teach(x, "log b weight 1;"), 0);
        checks.due("errorAt without an error", x.errorAt(), -1);
        checks.due("wrong number", Checks.teach(x, "log b weight 0;"), 5);
        checks.due("right behind a wrong number", x.teach(), 0);
        checks.due("errorAt without an error again", x.errorAt(), -1);
    }

    /** What an earlier list left may not be seen in a later one. */
    private static void teachAgainAndAgain() {
        String text = "stretch s long 2 slope 5 frost 0;horse h pull 99 links 9 iron 30;horse g pull 99 links 9 iron 99;"
                + "log a weight 20;log b weight 40;log c weight 9;haul g with 40;haul h with 50;wait h at s when hour < 0;";
        FjordHaul x = Checks.taught(text);
        long fresh = x.digest();
        for (int i = 0; i < 6; i++) {
            int passed = 2 + i % 3;
            x.pass(passed);
            if (i % 2 == 0) {
                checks.due("a wrong one between", Checks.teach(x, text + "wait g at s when 1 < 2;haul g with 9;log a weight 1;"), 2);
            }
            checks.due("teach again " + i, Checks.teach(x, text), 0);
            FjordHaul other = new FjordHaul();
            other.pass(x.count(0));
            checks.due("teach another " + i, Checks.teach(other, text), 0);
            checks.due("as if new " + i, x.digest(), other.digest());
        }
        checks.isTrue("but for the hour", x.digest() != fresh);
        checks.due("without hauls", Checks.teach(x, text.substring(0, text.indexOf("haul"))), 0);
        checks.due("none are left", x.pass(20), 0);
        checks.due("none is off", x.count(9), 0);
        FjordHaul y = Checks.taught(ROAD + "log a weight 1;haul h with 1;wait h at s when 0 < 1;");
        for (int i = 0; i < 40; i++) {
            Checks.teach(y, ROAD + "log a weight 1;haul h with 1 + 1 * (2 - 1) - 1 / (2 - 1) when hour >= 0 and not [hour < 0 or pile < 1];");
        }
        checks.due("no wait is left, and the 40th is read as the first", y.pass(2), 1);
    }

    private static void haul(String rest) {
        checks.right(ROAD + "haul h with " + rest + ";");
    }

    private static void rightLists() {
        checks.right("");
        checks.right(" \n \n");
        checks.right("\nlog\n\na weight\n1\n;\n");
        checks.right("log a weight 1;log b weight 60;");
        checks.right("stretch a long 9 slope-9 frost 9;stretch a1b2 long 1 slope 0 frost 0;stretch c long 1 slope - 0 frost 0;");
        checks.right("horse h pull 1links 1iron 1bell;horse i pull 99 links 9 iron 99;");
        checks.right("stretch same long 1 slope 0 frost 0;horse same pull 1 links 1 iron 1;log same weight 1;"
                + "haul same with frost same + load same;wait same at same when fallen same = 0;");
        checks.right("log longer weight 1;log at1 weight 1;log hours weight 1;");
        haul("hour+weather-pile*raft/tired h+load h+links h+frost s+fallen s");
        haul("999999 when 1<2 and 2>1 and 1=1 and 1<=1 and 1>=1 or not not[1<2 or[1<2]]");
        haul("--(-1)-min(1,max(2,3)*4)");
        haul("1 - - 1");
        haul("000000");
    }

    private static void wrongTokens() {
        checks.wrongAtMark(1, "~;");
        checks.wrongAtMark(1, "log a weight 1;~;");
        checks.wrongAtMark(1, "~name a weight 1;");
        checks.wrongAtMark(1, "log a weight 1 ~");
        checks.wrongAtMark(1, "stretch~");
        checks.wrongAtMark(1, "stretch \n ~");
        checks.wrongAtMark(1, "stretch ~long long 1 slope 0 frost 0;");
        checks.wrongAtMark(1, "log ~min weight 1;");
        checks.wrongAtMark(1, "log ~1 weight 1;");
        checks.wrongAtMark(1, "log ~1a weight 1;");
        checks.wrongAtMark(1, "stretch a long ~-1 slope 0 frost 0;");
        checks.wrongAtMark(1, "stretch a long 1 slope -~-1 frost 0;");
        checks.wrongAtMark(1, "stretch a long 1 slope ~+1 frost 0;");
        checks.wrongAtMark(1, "stretch a long 1 ~frost 0 slope 0;");
        checks.wrongAtMark(1, "horse h ~links 1 pull 1 iron 1;");
        checks.wrongAtMark(1, "horse h pull 1 links 1 iron 1 bell ~bell;");
        checks.wrongAtMark(1, "log a weight 1~,log b weight 1;");
        for (char c : new char[] {'A', 'Z', '\t', '\r', 0, 31, 127, 128, 200, 255, '.', '_', '!', '{', '\'', '@', '`'}) {
            checks.wrongAtMark(1, "log a weight 1;~" + c);
            checks.wrongAtMark(1, "log a~" + c + " weight 1;");
        }
        checks.wrongAtMark(1, ROAD + "haul h ~1;");
        checks.wrongAtMark(1, ROAD + "haul h with ~;");
        checks.wrongAtMark(1, ROAD + "haul h with ~not 1 < 2;");
        checks.wrongAtMark(1, ROAD + "haul h with ~+1;");
        checks.wrongAtMark(1, ROAD + "haul h with 1 + ~* 2;");
        checks.wrongAtMark(1, ROAD + "haul h with ~h;");
        checks.wrongAtMark(1, ROAD + "haul h with load ~hour;");
        checks.wrongAtMark(1, ROAD + "haul h with ~iron h;");
        checks.wrongAtMark(1, ROAD + "haul h with min ~1;");
        checks.wrongAtMark(1, ROAD + "haul h with min(1~);");
        checks.wrongAtMark(1, ROAD + "haul h with max(1,2~,3);");
        checks.wrongAtMark(1, ROAD + "haul h with (1~;");
        checks.wrongAtMark(1, ROAD + "haul h with (~);");
        checks.wrongAtMark(1, ROAD + "haul h with 1~);");
        checks.wrongAtMark(1, ROAD + "haul h with ~[1];");
        checks.wrongAtMark(1, ROAD + "haul h with 1 ~< 2;");
        checks.wrongAtMark(1, ROAD + "haul h with 1 when 1~;");
        checks.wrongAtMark(1, ROAD + "haul h with 1 when 1 <~;");
        checks.wrongAtMark(1, ROAD + "haul h with 1 when 1 < ~= 2;");
        checks.wrongAtMark(1, ROAD + "haul h with 1 when 1 =~< 2;");
        checks.wrongAtMark(1, ROAD + "haul h with 1 when 1 < 2 ~< 3;");
        checks.wrongAtMark(1, ROAD + "haul h with 1 when (1 ~< 2);");
        checks.wrongAtMark(1, ROAD + "haul h with 1 when [1~];");
        checks.wrongAtMark(1, ROAD + "haul h with 1 when [1 < 2~;");
        checks.wrongAtMark(1, ROAD + "haul h with 1 when 1 < 2~];");
        checks.wrongAtMark(1, ROAD + "haul h with 1 when 1 < 2 and ~;");
        checks.wrongAtMark(1, ROAD + "haul h with 1 when 1 < 2 ~not 1 < 2;");
        checks.wrongAtMark(1, ROAD + "haul h with 1 when 1 < ~not 2;");
        checks.wrongAtMark(1, ROAD + "haul h with 1 when 1 < 2 ~when 1 < 2;");
        checks.wrongAtMark(1, ROAD + "wait h at s~;");
        checks.wrongAtMark(1, ROAD + "wait h ~when 1 < 2;");
        checks.wrongAtMark(1, ROAD + "wait h at ~1 when 1 < 2;");
        checks.wrongAtMark(1, ROAD + "wait h at s when ~");
    }

    private static void longTokens() {
        checks.right("log abcdefghij weight 1;");
        checks.right("log a123456789 weight 1;");
        checks.wrongAtMark(1, "log ~abcdefghijk weight 1;");
        checks.wrongAtMark(1, "log ~a1234567890 weight 1;");
        checks.wrongAtMark(1, "~stretchstretch a long 1 slope 0 frost 0;");
        checks.right("log a weight 000001;");
        checks.wrongAtMark(1, "log a weight ~0000001;");
        checks.wrongAtMark(1, ROAD + "haul h with ~1000000;");
        checks.right(ROAD + "haul h with 999999when 1<2;");
        FjordHaul x = Checks.taught("log abcdefghij weight 1;log abcdefghi1 weight 2;log a weight 3;log a0 weight 4;");
        checks.due("names that begin alike", x.count(4), 4);
    }

    private static void namesThatDiffer() {
        String signs = "abcdefghijklmnopqrstuvwxyz0123456789";
        for (int i = 0; i < signs.length(); i++) {
            for (int k = 0; k < signs.length(); k++) {
                FjordHaul x = new FjordHaul();
                String line = "log q" + signs.charAt(i) + " weight 1;";
                int error = Checks.teach(x, line + "log q" + signs.charAt(k) + " weight 1;");
                checks.due("names with " + signs.charAt(i) + " and " + signs.charAt(k), error, i == k ? 2 : 0);
                checks.due("errorAt", x.errorAt(), i == k ? line.length() + 4 : -1);
            }
        }
        checks.right("log a weight 1;log aa weight 1;log aaa weight 1;log a0 weight 1;log a00 weight 1;log a0a weight 1;");
        checks.right("log z weight 1;log zzzzzzzzzz weight 1;log z999999999 weight 1;");
        checks.right("log z999999999 weight 1;log z999999998 weight 1;log y999999999 weight 1;");
    }

    private static void depth() {
        haul("((((((((1))))))))");
        haul("--------1");
        haul("min(max(min(max(min(max(min(max(1,2),2),2),2),2),2),2),2)");
        haul("1 when [[[[[[[[1<2]]]]]]]]");
        haul("1 when not not not not not not not not 1<2");
        haul("1 when not[not[not[not[1<2]]]]");
        haul("1 when [[[[((((1))))<----2]]]] and [[[[[[[[1<2]]]]]]]]");
        haul("((((((((1-1))))))))-((((((((1))))))))");
        checks.wrongAtMark(1, ROAD + "haul h with ((((((((~(1)))))))));");
        checks.wrongAtMark(1, ROAD + "haul h with --------~-1;");
        checks.wrongAtMark(1, ROAD + "haul h with ((((((((~-1))))))));");
        checks.wrongAtMark(1, ROAD + "haul h with --------~(1);");
        checks.wrongAtMark(1, ROAD + "haul h with ((((((((min~(1,2)))))))));");
        checks.wrongAtMark(1, ROAD + "haul h with min(1,min(1,min(1,min(1,min(1,min(1,min(1,min(1,~-1))))))));");
        checks.wrongAtMark(1, ROAD + "haul h with min((((((((~(1)))))))),2);");
        checks.wrongAtMark(1, ROAD + "haul h with max(2,(((((((~(1)))))))));");
        checks.wrongAtMark(1, ROAD + "haul h with 1 when [[[[[[[[~[1<2]]]]]]]]];");
        checks.wrongAtMark(1, ROAD + "haul h with 1 when not not not not not not not not ~not 1<2;");
        checks.wrongAtMark(1, ROAD + "haul h with 1 when not not not not not not not not ~[1<2];");
        checks.wrongAtMark(1, ROAD + "haul h with 1 when [[[[not not not not 1 < 2 and 1 < ((((~(2)))))]]]];");
        checks.wrongAtMark(1, ROAD + "wait h at s when [[[[[[[[1<~-2]]]]]]]];");
    }

    /** HORSE has 9 tokens, haul h with 1 and its ; 5: so 193 times +1 make 400. */
    private static void tokenLimit() {
        String text = HORSE + "haul h with 1" + "+1".repeat(193);
        checks.right(text + ";");
        checks.right(text + "; \n ");
        checks.wrong(text + ";;", 1, text.length() + 1);
        checks.wrong(text + "; log", 1, text.length() + 2);
        checks.wrong(text + ";?", 1, text.length() + 1);
        checks.wrong(text + "+1;", 1, text.length() + 1);
        checks.wrong(text + "+;", 1, text.length() + 1);
        checks.wrong(text + "-;", 1, text.length() + 1);
        checks.wrong(text, 1, text.length());
        checks.wrong(HORSE + "haul h with x" + "+1".repeat(192) + "+1;;", 1, HORSE.length() + 12);
    }

    private static void wrongTokenComesFirst() {
        checks.wrongAtMark(1, "log a weight 0;log a weight 1; ~x");
        checks.wrongAtMark(1, "log a weight 0;log a weight 1; haul h with ~;");
        checks.wrongAtMark(1, "haul x with load y;wait x at y when 1 < ~;");
    }

    private static void namesToldTwice() {
        checks.wrongAtMark(2, "log a weight 1;log b weight 1;log ~a weight 1;");
        checks.wrongAtMark(2, HORSE + "horse ~h pull 1 links 1 iron 1;");
        checks.wrongAtMark(2, ROAD + "stretch ~s long 1 slope 0 frost 0;");
        checks.wrongAtMark(2, ROAD + "stretch ~s long 0 slope 0 frost 0;");
    }

    private static void namesNotTold() {
        checks.wrongAtMark(3, "haul ~h with 1;" + HORSE);
        checks.wrongAtMark(3, ROAD + "haul ~s with 1;");
        checks.wrongAtMark(3, ROAD + "log l weight 1;haul ~l with 1;");
        checks.wrongAtMark(3, ROAD + "wait ~s at s when 1<2;");
        checks.wrongAtMark(3, ROAD + "wait h at ~h when 1<2;");
        checks.wrongAtMark(3, ROAD + "wait ~x at x when 1<2;");
        for (String word : new String[] {"tired", "load", "links"}) {
            checks.wrongAtMark(3, ROAD + "haul h with " + word + " ~s;");
            checks.wrongAtMark(3, ROAD + "haul h with 1 when 1 < 2 or 1 < " + word + " ~x;");
        }
        for (String word : new String[] {"frost", "fallen"}) {
            checks.wrongAtMark(3, ROAD + "haul h with " + word + " ~h;");
            checks.wrongAtMark(3, ROAD + "wait h at s when " + word + " ~x < 1;");
        }
        checks.wrongAtMark(3, ROAD + "haul h with load ~i;horse i pull 1 links 1 iron 1;");
    }

    private static String many(int number, String before, String behind) {
        StringBuilder text = new StringBuilder();
        for (int i = 0; i < number; i++) {
            text.append(before).append(i).append(behind);
        }
        return text.toString();
    }

    private static void tooMany() {
        String stretches = many(8, "stretch s", " long 1 slope 0 frost 0;");
        checks.right(stretches);
        checks.wrongAtMark(4, stretches + "stretch ~t long 1 slope 0 frost 0;");
        checks.wrongAtMark(2, stretches + "stretch ~s7 long 1 slope 0 frost 0;");
        String horses = many(6, "horse h", " pull 1 links 1 iron 1;");
        checks.right(horses);
        checks.wrongAtMark(4, horses + "horse ~i pull 1 links 1 iron 0;");
        checks.wrongAtMark(2, horses + "horse ~h0 pull 1 links 1 iron 1;");
        String logs = many(20, "log l", " weight 1;");
        checks.right(logs);
        checks.wrongAtMark(4, logs + "log ~m weight 1;");
        checks.wrongAtMark(2, logs + "log ~l19 weight 1;");
        String hauls = ROAD + "haul h with 1;".repeat(12);
        checks.right(hauls);
        checks.wrongAtMark(4, hauls + "~haul h with 1;");
        checks.wrongAtMark(4, hauls + "~haul x with load x;");
        String waits = ROAD + "wait h at s when 1<2;".repeat(12);
        checks.right(waits + "haul h with 1;".repeat(12));
        checks.wrongAtMark(4, waits + "~wait h at s when 1<2;");
        checks.wrongAtMark(4, waits + "~wait x at x when 1<2;");
    }

    private static void outOfRange() {
        for (String number : new String[] {"~0", "~10", "~999999"}) {
            checks.wrongAtMark(5, "stretch a long " + number + " slope 0 frost 0;");
            checks.wrongAtMark(5, "horse a pull 1 links " + number + " iron 1;");
        }
        for (String number : new String[] {"~10", "~100"}) {
            checks.wrongAtMark(5, "stretch a long 1 slope " + number + " frost 0;");
            checks.wrongAtMark(5, "stretch a long 1 slope - " + number + " frost 0;");
            checks.wrongAtMark(5, "stretch a long 1 slope 0 frost " + number + ";");
        }
        for (String number : new String[] {"~0", "~100"}) {
            checks.wrongAtMark(5, "horse a pull " + number + " links 1 iron 1;");
            checks.wrongAtMark(5, "horse a pull 1 links 1 iron " + number + ";");
        }
        checks.wrongAtMark(5, "log a weight ~0;");
        checks.wrongAtMark(5, "log a weight ~61;");
    }

    private static void firstErrorIsTold() {
        checks.wrongAtMark(5, "log a weight ~0;log a weight 1;");
        checks.wrongAtMark(3, "haul ~h with load i;log a weight 0;");
        checks.wrongAtMark(2, "log a weight 1;log ~a weight 0;haul h with 1;");
        checks.wrongAtMark(5, "stretch a long 1 slope ~10 frost 10;");
    }
}
