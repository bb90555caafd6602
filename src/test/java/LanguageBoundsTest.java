import java.util.ArrayList;
import java.util.List;

/**
 * "Terms" and "1. The language", and promises 2 to 5, sentence by sentence: of each that names a boundary case the
 * last that is taken, the first that is not, and that a list with an error changes nothing (Checks.wrong sees to it).
 */
public final class LanguageBoundsTest {
    private static final String HORSE = "horse h pull 1 links 1 iron 1;";
    private static final String ROAD = "stretch s long 1 slope 0 frost 0;" + HORSE;
    private static final String HAUL = ROAD + "haul h with ";
    private static final String WHEN = ROAD + "haul h with 1 when ";
    private static final String[] KEYWORDS = ("stretch long slope frost horse pull links iron bell log weight haul with"
            + " when wait at hour weather pile raft tired load fallen not and or min max").split(" ");
    private static final Checks checks = new Checks();
    private static final Twins twins = new Twins(checks);

    public static void main(String[] args) {
        positionsAreCountedFrom0InBytes();
        theTapeHasAtMost2000Bytes();
        theTapeIsAtFirstEmpty();
        theTapeIsEmptyBehindTeach();
        blanksAndLineEndsAlone();
        blanksBetweenTokensReadAsOne();
        theLongestPossibleTokenIsRead();
        aWordHasAtMost10Bytes();
        aWordBeginsWithALetter();
        aNumberHas1To6Digits();
        allSymbolsAndNoOthers();
        allKeywordsAndNoOthers();
        anyNumberOfTimesAlsoNone();
        xOrNothing();
        depthIsAtMost8();
        depthOfBrackets();
        depthOfMinus();
        depthOfNot();
        depthOfMinAndMax();
        depthIsLessBehind();
        theEndOfTheTape();
        the401stToken();
        error1Comes1st();
        fromLeftToRight();
        theSmallestNumberAtOneToken();
        error2OfTheSameSort();
        error3ToldAhead();
        error4TooMany();
        error5OutOfRange();
        theMinusOfASlope();
        numberedFrom0();
        teachInThePlaceOfAllBefore();
        teachWithAnErrorKeepsAll();
        errorAtOfTheLatest();
        checks.end();
    }

    private static String blanks(int number) {
        return " ".repeat(number);
    }

    // ---- Terms: "Positions of the tape are counted from 0, in bytes."

    private static void positionsAreCountedFrom0InBytes() {
        checks.wrong(";", 1, 0);
        checks.wrong("\u00ff", 1, 0);
        checks.wrong(" \n;", 1, 2);
        checks.wrong(blanks(1999) + ";", 1, 1999);
        checks.wrong(blanks(1995) + "log a", 1, 2000);
        checks.wrong(blanks(1985) + "log a weight 0;", 5, 1998);
    }

    // ---- "The tape is a row of at most 2000 bytes, at first empty"; promise 2: "if there would be more than 2000"

    private static void theTapeHasAtMost2000Bytes() {
        FjordHaul x = new FjordHaul();
        for (int bytes = 20; bytes <= 2000; bytes += 20) {
            checks.due("feed to " + bytes, x.feed(0x20202020, 0x0a0a0a0a, 0x20202020, 0x20202020, 0x20202020), bytes);
        }
        checks.due("2000 bytes are taken", x.count(12), 2000);
        Twins.Maker justFull = () -> tapeOf(1980, true);
        twins.only("count of 1980 and 20", 2000, justFull, y -> y.count(12));
        twins.refuses("feed to 2020", IllegalStateException.class, justFull, y -> y.feed(1, 2, 3, 4, 5));
        for (int bytes = 1981; bytes < 2000; bytes++) {
            int length = bytes;
            twins.refuses("feed to " + (bytes + 20), IllegalStateException.class, () -> tapeOf(length, false),
                    y -> y.feed(0x20202020, 0x20202020, 0x20202020, 0x20202020, 0x20202020));
        }
        for (int bytes = 1960; bytes <= 1980; bytes++) {
            checks.due("feed to " + (bytes + 20) + " is taken", tapeOf(bytes, false).feed(0, 0, 0, 0, 0), bytes + 20);
        }
        checks.right(blanks(1985) + "log z weight 1;");
        checks.right("log z weight 1;" + blanks(1985));
    }

    /** A tape that holds a right list and blanks, and so many bytes in all; then 20 blanks more, if so wanted. */
    private static FjordHaul tapeOf(int bytes, boolean andMore) {
        FjordHaul x = new FjordHaul();
        Checks.write(x, Twins.NEXT + blanks(bytes - Twins.NEXT.length()));
        if (andMore) {
            x.feed(0x20202020, 0x20202020, 0x20202020, 0x20202020, 0x20202020);
        }
        return x;
    }

    private static void theTapeIsAtFirstEmpty() {
        twins.only("count 12", 0, Twins::fresh, x -> x.count(12));
        twins.refuses("trim 1", IllegalArgumentException.class, Twins::fresh, x -> x.trim(1));
        FjordHaul x = new FjordHaul();
        checks.due("teach of it", x.teach(), 0);
        checks.due("errorAt of it", x.errorAt(), -1);
        checks.due("the first feed", x.feed(0, 0, 0, 0, 0), 20);
    }

    // ---- "teach reads it as a list, and it is empty behind it"

    private static void theTapeIsEmptyBehindTeach() {
        for (String text : new String[] {"", " ", "log a weight 1;", "log a weight 0;", "?", blanks(2000), blanks(1999) + "?"}) {
            FjordHaul x = new FjordHaul();
            Checks.teach(x, text);
            checks.due("behind teach", x.count(12), 0);
            checks.raises(x, "trim 1 behind teach", IllegalArgumentException.class, () -> x.trim(1));
            checks.due("feed behind teach", x.feed(0x6c6f6720, 0x61207765, 0x69676874, 0x20363b20, 0x20202020), 20);
            checks.due("teach of what is fed anew", x.teach(), 0);
            checks.due("its weight", x.log(0, 0), 6);
        }
    }

    // ---- "Blanks (32) and line ends (10) can stand between tokens, at the beginning and at the end"

    private static void blanksAndLineEndsAlone() {
        for (int b = 0; b < 256; b++) {
            String sign = String.valueOf((char) b);
            boolean blank = b == 32 || b == 10;
            takenOrNot(blank, sign + "log a weight 1;", 0);
            takenOrNot(blank, "log a weight 1;" + sign, 15);
            takenOrNot(blank, "log a weight 1 " + sign + "\n;", 15);
            takenOrNot(blank, blanks(1984) + "log a weight 1;" + sign, 1999);
        }
        checks.right("log\na\nweight\n1\n;\n");
        checks.right("\n\n log \n a \n\n weight   1   ;  \n");
    }

    /** Or, where the sign is a ; or a digit that can stand there, the error is that of the next. */
    private static void takenOrNot(boolean taken, String text, int at) {
        char sign = text.charAt(at);
        if (taken) {
            checks.right(text);
        } else if (sign == ';' && text.endsWith("\n;")) {
            checks.wrong(text, 1, text.length() - 1);
        } else {
            checks.wrong(text, 1, at);
        }
    }

    // ---- "... and have to stand between two tokens that would otherwise be read as one"

    private static void blanksBetweenTokensReadAsOne() {
        checks.wrongAtMark(1, "~loga weight 1;");
        checks.wrongAtMark(1, "log aweight ~1;");
        checks.wrongAtMark(1, "log a ~weight1;");
        checks.wrongAtMark(1, ROAD + "haul h with ~loadh;");
        checks.wrongAtMark(1, ROAD + "haul h with ~hour1;");
        checks.wrongAtMark(1, WHEN + "~not1<2;");
        checks.wrongAtMark(1, WHEN + "1<2 ~and1<2;");
        checks.wrongAtMark(1, HAUL + "1 ~2;");
        checks.right("log a weight 1 \n;");
        checks.right("horse h pull 1links 1iron 1bell;");
        checks.right(HAUL + "1when 1<2and 2<3or not[1<2];");
        checks.right(HAUL + "-(min(1,2)+hour)*-3/load h;");
        checks.right(HAUL + "1+-1--1;");
    }

    // ---- "The longest possible token is always read."

    private static void theLongestPossibleTokenIsRead() {
        checks.right(WHEN + "1<=1;");
        checks.right(WHEN + "1>=1;");
        checks.wrongAtMark(1, WHEN + "1< ~=1;");
        checks.wrongAtMark(1, WHEN + "1> ~=1;");
        checks.wrongAtMark(1, WHEN + "1<\n~=1;");
        checks.wrongAtMark(1, WHEN + "1=~<1;");
        checks.wrongAtMark(1, WHEN + "1=~>1;");
        checks.wrongAtMark(1, WHEN + "1=~=1;");
        checks.wrongAtMark(1, WHEN + "1<~>1;");
        checks.wrongAtMark(1, WHEN + "1<~<1;");
        checks.wrongAtMark(1, WHEN + "1>~>=1;");
        checks.wrongAtMark(1, WHEN + "1<=~=1;");
        checks.wrongAtMark(1, WHEN + "1>=~=1;");
        checks.wrongAtMark(1, WHEN + "1<=~<=1;");
        checks.right(WHEN + "1<-1;");
        checks.right(WHEN + "1<=-1;");
        checks.right("log logs weight 1;log atlog weight 2;log l0g weight 3;");
        FjordHaul x = Checks.taught("log a weight 10;log a1 weight 2;log a11 weight 3;");
        checks.due("digits of a name are no number", x.count(4), 3);
        checks.due("all digits of a number are read", x.log(0, 0), 10);
    }

    // ---- "A word: a letter a to z, followed by letters a to z and digits, at most 10 bytes."

    private static void aWordHasAtMost10Bytes() {
        checks.right("log a weight 1;");
        checks.right("log abcdefghij weight 1;");
        checks.right("log a000000000 weight 1;");
        checks.right("log stretchlon weight 1;");
        checks.wrongAtMark(1, "log ~abcdefghijk weight 1;");
        checks.wrongAtMark(1, "log ~a0000000000 weight 1;");
        checks.wrongAtMark(1, "log ~abcdefghij0 weight 1;");
        checks.wrongAtMark(1, "log ~" + "z".repeat(200) + " weight 1;");
        checks.wrongAtMark(1, blanks(1989) + "~abcdefghijk");
        checks.wrongAtMark(1, "log a weight 1; ~abcdefghijk");
        checks.wrongAtMark(1, "~loglogloglog");
        checks.right("log abcdefghij weight 1;log abcdefghik weight 1;log bbcdefghij weight 1;");
        checks.wrongAtMark(2, "log abcdefghij weight 1;log ~abcdefghij weight 1;");
    }

    private static void aWordBeginsWithALetter() {
        for (int b = 0; b < 256; b++) {
            char sign = (char) b;
            boolean letter = sign >= 'a' && sign <= 'z';
            boolean digit = sign >= '0' && sign <= '9';
            boolean blank = sign == ' ' || sign == '\n';
            if (blank) {
                checks.wrong("log a" + sign + "z weight 1;", 1, 6);
            } else if (letter) {
                checks.right("log " + sign + " weight 1;");
                checks.right("log " + sign + "z weight 1;");
            } else {
                checks.wrong("log " + sign + " weight 1;", 1, 4);
                checks.wrong("log " + sign + "z weight 1;", 1, 4);
            }
            if (letter || digit) {
                checks.right("log q" + sign + " weight 1;");
                checks.right("log q" + sign + "z weight 1;");
            } else if (!blank) {
                checks.wrong("log q" + sign + " weight 1;", 1, 5);
                checks.wrong("log q" + sign + "z weight 1;", 1, 5);
            }
        }
    }

    // ---- "A number: 1 to 6 digits."

    private static void aNumberHas1To6Digits() {
        for (String number : new String[] {"1", "60", "01", "000001", "000060"}) {
            FjordHaul x = Checks.taught("log a weight " + number + ";");
            checks.due("weight " + number, x.log(0, 0), Integer.parseInt(number));
        }
        checks.wrongAtMark(1, "log a weight ~0000001;");
        checks.wrongAtMark(1, "log a weight ~1111111;");
        checks.wrongAtMark(5, "log a weight ~111111;");
        checks.right(HAUL + "999999;");
        checks.right(HAUL + "000000;");
        checks.wrongAtMark(1, HAUL + "~1000000;");
        checks.wrongAtMark(1, HAUL + "~0000000;");
        checks.wrongAtMark(1, HAUL + "~" + "9".repeat(300) + ";");
        checks.wrongAtMark(1, blanks(1993) + "~1234567");
        checks.right(HAUL + "1/1*0+9-8;");
        checks.wrongAtMark(1, HAUL + "1~:1;");
    }

    // ---- "Symbols: ( ) [ ] ; , + - * / < > = <= >=", "a byte with which no token begins"

    private static void allSymbolsAndNoOthers() {
        checks.right(WHEN + "(1)<2 and[1>2]or 1=max(1,2)+3-4*5/6 or 1<=2 or 1>=2;");
        for (int b = 0; b < 256; b++) {
            char sign = (char) b;
            String text = HAUL + "1 " + sign + " 2;";
            if ("+-*/".indexOf(sign) >= 0) {
                checks.right(text);
            } else {
                boolean nextIsWrong = sign == ' ' || sign == '\n' || sign == ';';
                checks.wrong(text, 1, HAUL.length() + (nextIsWrong ? 4 : 2));
            }
            if ("<>=".indexOf(sign) >= 0) {
                checks.right(WHEN + "1" + sign + "2;");
            }
        }
    }

    // ---- "The keywords are: ... All other words are names."

    private static void allKeywordsAndNoOthers() {
        checks.due("keywords", KEYWORDS.length, 28);
        for (String word : KEYWORDS) {
            checks.wrongAtMark(1, "log ~" + word + " weight 1;");
            checks.wrongAtMark(1, "stretch ~" + word + " long 1 slope 0 frost 0;");
            checks.wrongAtMark(1, "horse ~" + word + " pull 1 links 1 iron 1;");
            checks.right("log " + word + "0 weight 1;");
            checks.right("log " + word + "z weight 1;");
            checks.right("log z" + word + " weight 1;");
            checks.right("log " + word.substring(1) + "0 weight 1;");
            checks.right("log " + word.substring(0, word.length() - 1) + " weight 1;");
        }
        for (String word : new String[] {"links1", "hours", "weathers", "ands", "orr", "nor", "mi", "ma", "units", "down"}) {
            checks.right("log " + word + " weight 1;");
        }
    }

    // ---- "{ x } x any number of times, also none"

    private static void anyNumberOfTimesAlsoNone() {
        checks.right("");
        checks.right("log a weight 1;");
        checks.right("log a weight 1;log b weight 1;");
        checks.wrongAtMark(1, "log a weight 1;~;");
        checks.wrongAtMark(1, "log a weight 1~");
        for (int times : new int[] {0, 1, 2, 9, 60}) {
            checks.right(HAUL + "1" + "+1".repeat(times) + ";");
            checks.right(HAUL + "1" + "-1".repeat(times) + ";");
            checks.right(HAUL + "1" + "*1".repeat(times) + ";");
            checks.right(HAUL + "1" + "/1".repeat(times) + ";");
            checks.right(WHEN + "1<2" + " or 1<2".repeat(times) + ";");
            checks.right(WHEN + "1<2" + " and 1<2".repeat(times) + ";");
        }
        for (String sign : new String[] {"+", "-", "*", "/"}) {
            checks.wrongAtMark(1, HAUL + "1" + sign + "~;");
            checks.wrongAtMark(1, HAUL + "1" + sign + "1" + sign + "~;");
        }
        checks.wrongAtMark(1, WHEN + "1<2 or ~;");
        checks.wrongAtMark(1, WHEN + "1<2 and ~;");
        checks.wrongAtMark(1, WHEN + "1<2 and ~or 1<2;");
        checks.wrongAtMark(1, WHEN + "1<2~<3;");
        checks.wrongAtMark(1, WHEN + "1~;");
    }

    // ---- "[ x ] outside of quotation marks means x or nothing"

    private static void xOrNothing() {
        checks.right("stretch a long 1 slope 5 frost 0;stretch b long 1 slope -5 frost 0;");
        checks.wrongAtMark(1, "stretch b long 1 slope -~-5 frost 0;");
        checks.wrongAtMark(1, "stretch b long 1 slope -~frost 0;");
        checks.right("horse h pull 1 links 1 iron 1;horse g pull 1 links 1 iron 1 bell;");
        checks.wrongAtMark(1, "horse h pull 1 links 1 iron 1 bell ~bell;");
        checks.right(HAUL + "1;");
        checks.right(HAUL + "1 when 1<2;");
        checks.wrongAtMark(1, HAUL + "1 when~;");
        checks.wrongAtMark(1, HAUL + "1 when 1<2 ~when 1<2;");
        checks.right(ROAD + "wait h at s when 1<2;");
        checks.wrongAtMark(1, ROAD + "wait h at s~;");
        checks.wrongAtMark(1, ROAD + "wait h at s when 1<2 ~when 1<2;");
    }

    // ---- "Depth. It is 0 at the beginning ... It may be at most 8."

    private static void depthIsAtMost8() {
        for (int depth = 0; depth <= 8; depth++) {
            checks.right(HAUL + "(".repeat(depth) + "1" + ")".repeat(depth) + ";");
            checks.right(HAUL + "-".repeat(depth) + "1;");
            checks.right(WHEN + "[".repeat(depth) + "1<2" + "]".repeat(depth) + ";");
            checks.right(WHEN + "not ".repeat(depth) + "1<2;");
            checks.right(ROAD + "wait h at s when " + "not ".repeat(depth) + "1<2;");
            checks.right(HAUL + "min(".repeat(depth) + "1" + ",2)".repeat(depth) + ";");
            checks.right(HAUL + "max(1,".repeat(depth) + "1" + ")".repeat(depth) + ";");
        }
        for (int more = 1; more <= 40; more += 13) {
            checks.wrongAtMark(1, HAUL + "(".repeat(8) + "~" + "(".repeat(more) + "1" + ")".repeat(8 + more) + ";");
            checks.wrongAtMark(1, HAUL + "-".repeat(8) + "~" + "-".repeat(more) + "1;");
            checks.wrongAtMark(1, WHEN + "[".repeat(8) + "~" + "[".repeat(more) + "1<2" + "]".repeat(8 + more) + ";");
            checks.wrongAtMark(1, WHEN + "not ".repeat(8) + "~" + "not ".repeat(more) + "1<2;");
            checks.wrongAtMark(1, ROAD + "wait h at s when " + "not ".repeat(8) + "~" + "not ".repeat(more) + "1<2;");
        }
    }

    /** "1 greater between a ( and its ), a [ and its ]" */
    private static void depthOfBrackets() {
        checks.right(WHEN + "[[[[((((1))))<((((2))))]]]];");
        checks.wrongAtMark(1, WHEN + "[[[[((((~(1)))))<2]]]];");
        checks.wrongAtMark(1, WHEN + "[[[[1<((((~(2)))))]]]];");
        checks.right(WHEN + "[[[[[[[[1-1<2-1]]]]]]]];");
        checks.wrongAtMark(1, WHEN + "[[[[[[[[1<~-2]]]]]]]];");
        checks.wrongAtMark(1, WHEN + "[[[[[[[[~(1)<2]]]]]]]];");
        checks.wrongAtMark(1, WHEN + "[[[[[[[[~not 1<2]]]]]]]];");
        checks.wrongAtMark(1, WHEN + "[[[[[[[[1<2 or ~[1<2]]]]]]]]];");
        checks.wrongAtMark(1, HAUL + "((((((((1+~(1)))))))));");
    }

    /** "behind a - in front (of a value) for what it turns" */
    private static void depthOfMinus() {
        checks.right(HAUL + "-------(1);");
        checks.wrongAtMark(1, HAUL + "--------~(1);");
        checks.right(HAUL + "((((((((1-1))))))));");
        checks.wrongAtMark(1, HAUL + "((((((((1-~-1))))))));");
        checks.wrongAtMark(1, HAUL + "((((((((~-1))))))));");
        checks.right(HAUL + "--------load h;");
        checks.right(HAUL + "-(-(-(-(1))));");
        checks.wrongAtMark(1, HAUL + "-(-(-(-(~-1))));");
    }

    /** "behind a not for what it turns" */
    private static void depthOfNot() {
        checks.right(WHEN + "not not not not not not not[1<2];");
        checks.wrongAtMark(1, WHEN + "not not not not not not not not~[1<2];");
        checks.right(WHEN + "not not not not not not not(1)<(2);");
        checks.wrongAtMark(1, WHEN + "not not not not not not not not~(1)<2;");
        checks.wrongAtMark(1, WHEN + "not not not not not not not not 1<~(2);");
        checks.wrongAtMark(1, WHEN + "not not not not not not not not 1<~-2;");
        checks.right(WHEN + "not[not[not[not[1<2]]]];");
        checks.wrongAtMark(1, WHEN + "not[not[not[not[~not 1<2]]]];");
    }

    private static void depthOfMinAndMax() {
        for (String word : new String[] {"min", "max"}) {
            checks.right(HAUL + "(((((((" + word + "(1,2))))))));");
            checks.wrongAtMark(1, HAUL + "((((((((" + word + "~(1,2)))))))));");
            checks.wrongAtMark(1, HAUL + "--------" + word + "~(1,2);");
            checks.right(HAUL + word + "(-------1,-------2);");
            checks.wrongAtMark(1, HAUL + word + "(-------~-1,2);");
            checks.wrongAtMark(1, HAUL + word + "(1,-------~-2);");
            checks.wrongAtMark(1, HAUL + "((((((((" + word + " ~1))))))));");
        }
    }

    /** It is as before behind the ), the ], the value of a - and the test of a not. */
    private static void depthIsLessBehind() {
        checks.right(HAUL + "((((((((1))))))))+((((((((1))))))))*((((((((1))))))));");
        checks.right(HAUL + "--------1*--------1+--------1---------1;");
        checks.right(HAUL + "--------1-(1)*((((((((1))))))));");
        checks.right(HAUL + "min((((((((1))))))),(((((((1))))))));");
        checks.right(HAUL + "min((((((((1))))))),2)+((((((((1))))))));");
        checks.right(WHEN + "[[[[[[[[1<2]]]]]]]]and[[[[[[[[1<2]]]]]]]]or[[[[[[[[1<2]]]]]]]];");
        checks.right(WHEN + "not not not not not not not not 1<2 and not not not not not not not not 1<2;");
        checks.right(WHEN + "not not not not not not not not 1<2 or(1)<(2)and[1<2];");
        checks.right(WHEN + "((((((((1))))))))<((((((((2))))))));");
        checks.right(HAUL + "--------1 when --------1<--------2;");
        checks.right(HAUL + "--------1;haul h with --------1;wait h at s when [[[[[[[[1<2]]]]]]]];");
    }

    // ---- Error 1: "the end of the tape (at its length)"

    private static void theEndOfTheTape() {
        String list = "stretch s long 1 slope - 2 frost 0 ; horse h pull 1 links 1 iron 1 bell ; log a weight 1 ; haul h with"
                + " min ( 1 , load h ) * - ( pile ) when not [ 1 < 2 or 2 <= frost s ] and 1 >= 2 ; wait h at s when 1 = 2 ;";
        String[] tokens = list.split(" ");
        StringBuilder text = new StringBuilder();
        for (int i = 0; i < tokens.length; i++) {
            text.append(tokens[i]);
            for (String behind : new String[] {"", " ", "\n \n"}) {
                if (tokens[i].equals(";")) {
                    checks.right(text + behind);
                } else {
                    checks.wrong(text + behind, 1, text.length() + behind.length());
                }
            }
            text.append(" ");
        }
    }

    // ---- "the token that would be the 401st (the end of the tape not counted)"

    private static void the401stToken() {
        // HORSE has 9 tokens, "haul h with 1" and its ; have 5: so 193 times "+1" make 400.
        String text = HORSE + "haul h with 1" + "+1".repeat(193);
        checks.right(text + ";");
        checks.right(text + ";" + blanks(2000 - text.length() - 1));
        checks.right(text + ";\n");
        for (String token : new String[] {"log", ";", "x", "1", "?", "\u0080", "1234567", "abcdefghijk", "("}) {
            checks.wrong(text + ";" + token, 1, text.length() + 1);
            checks.wrong(text + "; \n" + token, 1, text.length() + 3);
        }
        checks.wrong(text, 1, text.length());
        checks.wrong(text + "+", 1, text.length() + 1);
        checks.wrong(text + "+1;", 1, text.length() + 1);
        checks.wrong(text + "*;", 1, text.length() + 1);
        checks.wrong(text + " ", 1, text.length() + 1);
        checks.wrong(text + ";log a weight 1;", 1, text.length() + 1);
        String less = HORSE + "haul h with 1" + "+1".repeat(192);
        checks.right(less + ";");
        checks.wrong(less + ";;", 1, less.length() + 1);
        checks.wrong(less + "+;", 1, less.length() + 1);
        String wide = "haul h with 1" + " +\n1".repeat(193) + ";";
        checks.right(HORSE + wide);
        checks.wrong(HORSE + wide + "log", 1, HORSE.length() + wide.length());
    }

    // ---- "Only if there is no error 1, keywords, names and numbers are looked at"

    private static void error1Comes1st() {
        String[] flaws = {"log a weight 1;log a weight 1;", "haul x with 1;", "log a weight 0;",
            "haul h with load x;".repeat(13)};
        for (String flaw : flaws) {
            checks.wrong(ROAD + flaw + "log b weight 1", 1, ROAD.length() + flaw.length() + 14);
            checks.wrong(ROAD + flaw + "?", 1, ROAD.length() + flaw.length());
        }
        checks.wrongAtMark(1, "log a weight 0 ~weight 1;");
        checks.wrongAtMark(1, "log a weight 0~");
        checks.wrongAtMark(1, "stretch a long 0 slope 0 frost ~-1;");
        checks.wrongAtMark(1, "horse h pull 0 links 10 iron 100 ~bells;");
        checks.wrongAtMark(1, "haul x with --------~-1;");
        String flawOf400 = "haul x with -1" + "+1".repeat(197) + ";";
        checks.wrong(flawOf400, 3, 5);
        checks.wrong(flawOf400 + "log", 1, flawOf400.length());
    }

    // ---- "from left to right, and the first error is told, at its token"

    private static void fromLeftToRight() {
        String[] marked = {"log ~a weight 1;", "haul ~x with 1;", "log b weight ~0;"};
        int[] errors = {2, 3, 5};
        for (int i = 0; i < 3; i++) {
            for (int k = 0; k < 3; k++) {
                checks.wrongAtMark(errors[i], "log a weight 1;" + marked[i] + marked[k].replace("~", ""));
            }
        }
        checks.wrongAtMark(5, "horse h pull ~0 links 0 iron 0;");
        checks.wrongAtMark(5, "horse h pull 1 links ~0 iron 0;");
        checks.wrongAtMark(5, "horse h pull 1 links 1 iron ~0;");
        checks.wrongAtMark(5, "stretch s long ~0 slope 10 frost 10;");
        checks.wrongAtMark(5, "stretch s long 1 slope ~10 frost 10;");
        checks.wrongAtMark(5, "stretch s long 1 slope 9 frost ~10;");
        checks.wrongAtMark(3, "wait ~x at y when load z = 1;");
        checks.wrongAtMark(3, ROAD + "wait h at ~y when load z = 1;");
        checks.wrongAtMark(3, ROAD + "wait h at s when load ~z = frost z;");
        checks.wrongAtMark(3, ROAD + "wait h at s when load h = frost ~z;");
        checks.wrongAtMark(3, ROAD + "haul h with load ~z when load y = 1;");
    }

    // ---- "of errors at one token the one with the smallest number"

    private static void theSmallestNumberAtOneToken() {
        String stretches = many(8, "stretch s", " long 1 slope 0 frost 0;");
        String horses = many(6, "horse h", " pull 1 links 1 iron 1;");
        String logs = many(20, "log l", " weight 1;");
        for (int i = 0; i < 8; i++) {
            checks.wrongAtMark(2, stretches + "stretch ~s" + i + " long 1 slope 0 frost 0;");
        }
        for (int i = 0; i < 6; i++) {
            checks.wrongAtMark(2, horses + "horse ~h" + i + " pull 1 links 1 iron 1;");
        }
        for (int i = 0; i < 20; i++) {
            checks.wrongAtMark(2, logs + "log ~l" + i + " weight 1;");
        }
    }

    private static String many(int number, String before, String behind) {
        StringBuilder text = new StringBuilder();
        for (int i = 0; i < number; i++) {
            text.append(before).append(i).append(behind);
        }
        return text.toString();
    }

    // ---- "Error 2: the name behind stretch, horse or log is that of one of the same sort told ahead."

    private static void error2OfTheSameSort() {
        String[] lines = {"stretch ~x long 1 slope 0 frost 0;", "horse ~x pull 1 links 1 iron 1;", "log ~x weight 1;"};
        for (int i = 0; i < 3; i++) {
            for (int k = 0; k < 3; k++) {
                String first = lines[i].replace("~", "");
                if (i == k) {
                    checks.wrongAtMark(2, first + lines[k]);
                    checks.wrongAtMark(2, first + lines[k].replace("1", "0"));
                } else {
                    checks.right(first + lines[k].replace("~", ""));
                }
            }
            checks.right(lines[i].replace("~", "") + lines[i].replace("~x", "y"));
            checks.right(lines[i].replace("~", "") + lines[i].replace("~x", "xx"));
        }
        checks.wrongAtMark(2, "log a weight 1;log b weight 1;log ~a weight 1;");
        checks.wrongAtMark(2, "log a weight 1;log b weight 1;log ~b weight 1;");
    }

    // ---- "Error 3: another name is none of what it has to be, told ahead"

    private static void error3ToldAhead() {
        String[] horses = {"haul ~N with 1;", "wait ~N at s when 1<2;", "haul h with tired ~N;", "haul h with load ~N;",
            "haul h with links ~N;", "wait h at s when tired ~N=1;", "wait h at s when load ~N=1;", "wait h at s when 1=links ~N;"};
        String[] stretches = {"wait h at ~N when 1<2;", "haul h with frost ~N;", "haul h with fallen ~N;",
            "haul h with 1 when 1<frost ~N;", "wait h at s when fallen ~N=1;"};
        String told = ROAD + "stretch st long 1 slope 0 frost 0;horse ho pull 1 links 1 iron 1;log lo weight 1;";
        for (String line : horses) {
            checks.right(told + line.replace("~N", "h"));
            checks.right(told + line.replace("~N", "ho"));
            for (String name : new String[] {"s", "st", "lo", "none", "h0", "hoo"}) {
                checks.wrongAtMark(3, told + line.replace("N", name));
            }
            checks.wrongAtMark(3, told + line.replace("N", "late") + "horse late pull 1 links 1 iron 1;");
        }
        for (String line : stretches) {
            checks.right(told + line.replace("~N", "s"));
            checks.right(told + line.replace("~N", "st"));
            for (String name : new String[] {"h", "ho", "lo", "none", "s0", "stt"}) {
                checks.wrongAtMark(3, told + line.replace("N", name));
            }
            checks.wrongAtMark(3, told + line.replace("N", "late") + "stretch late long 1 slope 0 frost 0;");
        }
        // What only an earlier list told is not told (Checks.wrong teaches one with these names ahead).
        checks.wrongAtMark(3, "haul ~h with 1;");
        checks.wrongAtMark(3, HORSE + "wait h at ~s when 1<2;");
        checks.wrongAtMark(3, "stretch s long 1 slope 0 frost 0;wait ~x at s when 1<2;");
    }

    // ---- Error 4: "the name of the 9th stretch, of the 7th horse or of the 21st log, the haul of the 13th haul, or the wait of the 13th wait"

    private static void error4TooMany() {
        String stretches = many(8, "stretch s", " long 1 slope 0 frost 0;");
        String horses = many(6, "horse h", " pull 1 links 1 iron 1;");
        String logs = many(20, "log l", " weight 1;");
        checks.right(stretches);
        checks.wrongAtMark(4, stretches + "stretch ~t long 1 slope 0 frost 0;");
        checks.wrongAtMark(4, stretches + "stretch ~t long 0 slope 0 frost 0;");
        checks.wrongAtMark(4, stretches + "stretch ~t long 1 slope 0 frost 0;stretch u long 1 slope 0 frost 0;");
        checks.right(horses);
        checks.wrongAtMark(4, horses + "horse ~i pull 1 links 1 iron 1;");
        checks.wrongAtMark(4, horses + "horse ~i pull 0 links 1 iron 1;");
        checks.right(logs);
        checks.wrongAtMark(4, logs + "log ~m weight 1;");
        checks.wrongAtMark(4, logs + "log ~m weight 0;");
        checks.right(stretches + horses + logs);
        checks.right(stretches + horses + logs + "haul h5 with 1;".repeat(12));
        String hauls = ROAD + "haul h with 1;".repeat(12);
        checks.right(hauls);
        checks.wrongAtMark(4, hauls + "~haul h with 1;");
        checks.wrongAtMark(4, hauls + "~haul x with 1;");
        checks.wrongAtMark(4, hauls + "wait h at s when 1<2;~haul h with 1;");
        String waits = ROAD + "wait h at s when 1<2;".repeat(12);
        checks.right(waits);
        checks.wrongAtMark(4, waits + "~wait h at s when 1<2;");
        checks.wrongAtMark(4, waits + "~wait x at s when 1<2;");
        checks.wrongAtMark(4, waits + "haul h with 1;~wait h at s when 1<2;");
        checks.right(waits + "haul h with 1;".repeat(12));
        checks.wrongAtMark(4, waits + "haul h with 1;".repeat(12) + "~haul h with 1;");
        checks.wrongAtMark(4, hauls + "wait h at s when 1<2;".repeat(12) + "~wait h at s when 1<2;");
    }

    // ---- "Error 5: a number is out of its range"

    private static void error5OutOfRange() {
        range("stretch s long ~N slope 0 frost 0;", 1, 9);
        range("stretch s long 1 slope ~N frost 0;", 0, 9);
        range("stretch s long 1 slope - ~N frost 0;", 0, 9);
        range("stretch s long 1 slope 0 frost ~N;", 0, 9);
        range("horse h pull ~N links 1 iron 1;", 1, 99);
        range("horse h pull 1 links ~N iron 1;", 1, 9);
        range("horse h pull 1 links 1 iron ~N;", 1, 99);
        range("horse h pull 1 links 1 iron ~N bell;", 1, 99);
        range("log a weight ~N;", 1, 60);
        for (String number : new String[] {"0", "1", "100", "65536", "999999"}) {
            checks.right(HAUL + number + " when " + number + "<" + number + ";");
        }
        FjordHaul x = Checks.taught("stretch a long 1 slope -9 frost 0;stretch b long 9 slope 9 frost 9;"
                + "horse a pull 1 links 1 iron 1;horse b pull 99 links 9 iron 99;log a weight 1;log b weight 60;");
        int[] got = {x.stretch(0, 0), x.stretch(0, 1), x.stretch(0, 2), x.stretch(1, 0), x.stretch(1, 1), x.stretch(1, 2),
            x.horse(0, 0), x.horse(0, 1), x.horse(0, 2), x.horse(1, 0), x.horse(1, 1), x.horse(1, 2), x.log(0, 0), x.log(1, 0)};
        int[] want = {1, -9, 0, 9, 9, 9, 1, 1, 1, 99, 9, 99, 1, 60};
        for (int i = 0; i < want.length; i++) {
            checks.due("the ends of the ranges, number " + i, got[i], want[i]);
        }
    }

    private static void range(String line, int least, int most) {
        for (int number = 0; number <= 130; number++) {
            if (number >= least && number <= most) {
                checks.right(line.replace("~N", String.valueOf(number)));
            } else {
                checks.wrongAtMark(5, line.replace("N", String.valueOf(number)));
            }
        }
        for (String number : new String[] {"256", "257", "65537", "99999", "999999"}) {
            checks.wrongAtMark(5, line.replace("N", number));
        }
    }

    // ---- "The - of a slope is no part of a sum: it goes down by so much."

    private static void theMinusOfASlope() {
        for (int slope = 0; slope <= 9; slope++) {
            checks.due("slope " + slope, Checks.taught("stretch s long 1 slope " + slope + " frost 0;").stretch(0, 1), slope);
            checks.due("slope -" + slope, Checks.taught("stretch s long 1 slope -" + slope + " frost 0;").stretch(0, 1), -slope);
        }
        checks.wrongAtMark(5, "stretch s long 1 slope -~10 frost 0;");
        checks.wrongAtMark(1, "stretch s long 1 slope -~(1) frost 0;");
        checks.wrongAtMark(1, "stretch s long 1 slope 1~-1 frost 0;");
        checks.wrongAtMark(1, "stretch s long ~-1 slope 1 frost 0;");
        checks.wrongAtMark(1, "stretch s long 1 slope 1 frost ~-1;");
    }

    // ---- "Stretches, horses and logs are numbered from 0 in the order in which they are told"

    private static void numberedFrom0() {
        FjordHaul x = Checks.taught("log b weight 2;stretch z long 3 slope 0 frost 0;horse q pull 4 links 1 iron 1;log a weight 1;"
                + "horse p pull 3 links 1 iron 1;stretch y long 2 slope 0 frost 0;log c weight 9;");
        List<Integer> got = new ArrayList<>(List.of(x.stretch(0, 0), x.stretch(1, 0), x.horse(0, 0), x.horse(1, 0),
                x.log(0, 0), x.log(1, 0), x.log(2, 0)));
        checks.isTrue("in the order in which they are told: " + got, got.equals(List.of(3, 2, 4, 3, 2, 1, 9)));
        FjordHaul full = Checks.taught(Twins.fullList());
        int[] most = {full.count(2), full.count(3), full.count(4)};
        checks.isTrue("as many as can be", most[0] == 8 && most[1] == 6 && most[2] == 20);
        for (int i = 0; i < 20; i++) {
            checks.due("log " + i, full.log(i, 0), i + 1);
            checks.due("horse " + i % 6, full.horse(i % 6, 0), 90 + i % 6);
            checks.due("stretch " + i % 8, full.stretch(i % 8, 1), i % 8);
        }
    }

    // ---- Promise 4

    /** "in the place of all that was told before (what was brought, and chains that broke, begin anew)" */
    private static void teachInThePlaceOfAllBefore() {
        FjordHaul x = Twins.busy();
        int hour = x.count(0);
        checks.isTrue("there is something to begin anew", x.horse(0, 9) > 0 && x.count(11) > 0 && x.count(8) > 0 && x.count(6) > 0);
        x.trim(0);
        checks.due("teach of nothing", x.teach(), 0);
        int[] counts = {hour, -2, 0, 0, 0, 0, 0, 0, 0, 0, 0, 0, 0};
        for (int what = 0; what < 13; what++) {
            checks.due("count behind nothing " + what, x.count(what), counts[what]);
        }
        checks.dueDouble("mean behind nothing", x.mean(), 0.0);
        checks.raises(x, "no stretch", IndexOutOfBoundsException.class, () -> x.stretch(0, 0));
        checks.raises(x, "no horse", IndexOutOfBoundsException.class, () -> x.horse(0, 0));
        checks.raises(x, "no log", IndexOutOfBoundsException.class, () -> x.log(0, 0));
        FjordHaul full = Twins.full();
        FjordHaul other = new FjordHaul();
        other.setWeather(3);
        other.pass(11);
        full.trim(0);
        Checks.teach(full, Twins.fullList());
        Checks.teach(other, Twins.fullList());
        other.teach();
        Checks.teach(other, Twins.fullList());
        twins.alike("the same list again, behind nothing and behind itself", full, other);
    }

    /** "If it has an error, all stays (but the tape is empty)." */
    private static void teachWithAnErrorKeepsAll() {
        String[] lists = {"?", "log a weight 1", "log k weight 1;log k weight 2;", "haul k with 1;",
            "stretch s long 1 slope 0 frost 0;haul a with 1;", many(21, "log l", " weight 1;"), "log k weight 61;",
            Twins.fullList() + "haul h0 with 1;", HORSE + "haul h with 1" + "+1".repeat(193) + ";;"};
        int[] errors = {1, 1, 2, 3, 3, 4, 5, 4, 1};
        for (int i = 0; i < lists.length; i++) {
            FjordHaul x = Twins.busy();
            FjordHaul y = Twins.busy();
            x.trim(0);
            checks.due("error of " + lists[i], Checks.teach(x, lists[i]), errors[i]);
            y.trim(0);
            checks.due("count 12 behind an error", x.count(12), 0);
            checks.due("digest behind an error", x.digest(), y.digest());
            for (int hour = 0; hour < 30; hour++) {
                checks.due("pass behind an error", x.pass(1), y.pass(1));
                checks.due("digest of an hour behind an error", x.digest(), y.digest());
            }
        }
    }

    // ---- Promise 5: "-1 if it had none, or there was none"

    private static void errorAtOfTheLatest() {
        twins.only("errorAt of a new object", -1, Twins::fresh, FjordHaul::errorAt);
        twins.only("errorAt of a wrong list", 13, Twins::busy, FjordHaul::errorAt);
        FjordHaul x = new FjordHaul();
        Checks.write(x, " ?");
        checks.due("errorAt ahead of teach", x.errorAt(), -1);
        checks.due("teach", x.teach(), 1);
        checks.due("errorAt behind teach", x.errorAt(), 1);
        x.feed(0, 0, 0, 0, 0);
        x.trim(3);
        x.pass(7);
        x.setWeather(1);
        checks.due("errorAt is that of the latest teach", x.errorAt(), 1);
        checks.due("teach of other bytes", x.teach(), 1);
        checks.due("errorAt 0", x.errorAt(), 0);
        checks.due("teach of nothing", x.teach(), 0);
        checks.due("errorAt of a list without an error", x.errorAt(), -1);
        for (int error = 2; error <= 5; error++) {
            String[] lists = {"log a weight 1;log a weight 1;", "haul a with 1;", many(21, "log l", " weight 1;"), "log a weight 0;"};
            int[] at = {19, 5, lists[2].indexOf("l20"), 13};
            checks.due("teach with error " + error, Checks.teach(x, lists[error - 2]), error);
            checks.due("errorAt of error " + error, x.errorAt(), at[error - 2]);
            checks.due("teach without one", Checks.teach(x, "log a weight 1;"), 0);
            checks.due("errorAt without one", x.errorAt(), -1);
        }
    }
}
