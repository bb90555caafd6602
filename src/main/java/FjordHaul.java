/** Timber haulers of a fjord. */
public final class FjordHaul {
    private static final int TAPE_BYTES = 2000;
    private static final int FEED_BYTES = 20;
    private static final int MOST_TOKENS = 400;
    private static final int DEEPEST = 8;
    private static final int MOST_STRETCHES = 8;
    private static final int MOST_HORSES = 6;
    private static final int MOST_LOGS = 20;
    private static final int MOST_ORDERS = 12;
    private static final int MOST_ON_SLEDGE = 5;
    private static final int MOST_LINKS = 9;
    private static final int MOST_FROST = 9;
    private static final int MOST_TIRED = 60;
    private static final int MOST_WEATHER = 3;
    private static final int LONGEST_PASS = 120;
    private static final int LONGEST_ADVICE = 80;
    private static final int FARTHEST_SIGHT = 200;
    private static final int MORE_IRON = 10;
    private static final int COUNTS = 13;
    private static final int STRETCH_FACTS = 5;
    private static final int HORSE_FACTS = 10;
    private static final int LOG_FACTS = 4;
    private static final int FORESIGHTS = 4;
    private static final int FOREST = -1;

    private final byte[] tape;
    private final Reader reader;
    private int tapeLength;
    private int faultAt;
    private Road road;
    private Plan plan;
    // The spare ones take a list while it is read, so that a wrong one changes nothing;
    // the spare road also takes the hours that are only foreseen.
    private Road spareRoad;
    private Plan sparePlan;

    public FjordHaul() {
        tape = new byte[TAPE_BYTES];
        tapeLength = 0;
        faultAt = -1;
        road = new Road();
        plan = new Plan();
        spareRoad = new Road();
        sparePlan = new Plan();
        reader = new Reader(spareRoad, sparePlan);
    }

    // ---- the language

    public int feed(int a, int b, int c, int d, int e) throws IllegalStateException {
        if (tapeLength > TAPE_BYTES - FEED_BYTES) {
            throw new IllegalStateException("the tape would be longer than 2000 bytes");
        }
        append(a);
        append(b);
        append(c);
        append(d);
        append(e);
        return tapeLength;
    }

    private void append(int number) {
        for (int shift = 24; shift >= 0; shift -= 8) {
            if (tapeLength >= 0 && tapeLength < tape.length) {
                tape[tapeLength] = (byte) (number >> shift);
                tapeLength++;
            }
        }
    }

    public int trim(int n) throws IllegalArgumentException {
        checkRange(n, 0, tapeLength);
        tapeLength = n;
        return n;
    }

    public int teach() {
        int error = reader.read(tape, tapeLength, spareRoad, sparePlan);
        tapeLength = 0;
        faultAt = reader.errorPlace();
        if (error == 0) {
            adoptSpare();
        }
        return error;
    }

    private void adoptSpare() {
        spareRoad.hour = road.hour;
        spareRoad.weather = road.weather;
        Road oldRoad = road;
        road = spareRoad;
        spareRoad = oldRoad;
        Plan oldPlan = plan;
        plan = sparePlan;
        sparePlan = oldPlan;
    }

    public int errorAt() {
        return faultAt;
    }

    public int count(int what) throws IndexOutOfBoundsException {
        checkIndex(what, COUNTS);
        return what == COUNTS - 1 ? tapeLength : road.total(what);
    }

    // ---- stretches, horses, logs

    public int stretch(int stretch, int what) throws IndexOutOfBoundsException {
        checkIndex(stretch, road.stretchCount);
        checkIndex(what, STRETCH_FACTS);
        return road.stretchFact(stretch, what);
    }

    public int horse(int horse, int what) throws IndexOutOfBoundsException {
        checkIndex(horse, road.horseCount);
        checkIndex(what, HORSE_FACTS);
        return road.horseFact(horse, what);
    }

    public int log(int log, int what) throws IndexOutOfBoundsException {
        checkIndex(log, road.logCount);
        checkIndex(what, LOG_FACTS);
        return road.logFact(log, what);
    }

    public int needs(int horse, int stretch) throws IndexOutOfBoundsException {
        checkIndex(horse, road.horseCount);
        checkIndex(stretch, road.stretchCount);
        return road.need(horse, stretch);
    }

    // ---- by hand

    public int setWeather(int weather) throws IllegalArgumentException {
        checkRange(weather, -MOST_WEATHER, MOST_WEATHER);
        int before = road.weather;
        road.weather = weather;
        return before;
    }

    public int forge(int horse, int links) throws IndexOutOfBoundsException, IllegalArgumentException {
        checkIndex(horse, road.horseCount);
        checkRange(links, 1, MOST_LINKS);
        return road.addLinks(horse, links);
    }

    public int clear(int stretch) throws IndexOutOfBoundsException {
        checkIndex(stretch, road.stretchCount);
        return road.bringBack(stretch);
    }

    // ---- hours

    public int pass(int hours) throws IllegalArgumentException {
        checkRange(hours, 1, LONGEST_PASS);
        int before = road.weightOf(Log.AT_RAFT);
        road.goBy(hours, plan);
        return road.weightOf(Log.AT_RAFT) - before;
    }

    // ---- what would be

    public int arrives(int log) throws IndexOutOfBoundsException {
        checkIndex(log, road.logCount);
        spareRoad.become(road);
        for (int hours = 0; hours <= FARTHEST_SIGHT; hours++) {
            if (spareRoad.isAtRaft(log)) {
                return hours;
            }
            spareRoad.goBy(1, plan);
        }
        return -1;
    }

    public int breaks(int horse) throws IndexOutOfBoundsException {
        checkIndex(horse, road.horseCount);
        int links = road.linksOf(horse);
        spareRoad.become(road);
        for (int hours = 1; hours <= FARTHEST_SIGHT; hours++) {
            spareRoad.goBy(1, plan);
            if (spareRoad.linksOf(horse) < links) {
                return hours;
            }
        }
        return -1;
    }

    public int foresee(int hours, int what) throws IllegalArgumentException, IndexOutOfBoundsException {
        checkRange(hours, 1, LONGEST_PASS);
        checkIndex(what, FORESIGHTS);
        spareRoad.become(road);
        spareRoad.goBy(hours, plan);
        switch (what) {
            case 0: return spareRoad.weightOf(Log.AT_RAFT) - road.weightOf(Log.AT_RAFT);
            case 1: return spareRoad.logsIn(Log.FALLEN);
            case 2: return spareRoad.brokenChains - road.brokenChains;
            default: return spareRoad.weightOf(Log.IN_PILE);
        }
    }

    public int advise(int hours) throws IllegalArgumentException {
        checkRange(hours, 1, LONGEST_ADVICE);
        int best = -MOST_WEATHER;
        int most = -1;
        for (int weather = -MOST_WEATHER; weather <= MOST_WEATHER; weather++) {
            spareRoad.become(road);
            spareRoad.weather = weather;
            spareRoad.goBy(hours, plan);
            int weight = spareRoad.weightOf(Log.AT_RAFT);
            if (weight > most) {
                most = weight;
                best = weather;
            }
        }
        return best;
    }

    public int choose(int hours) throws IllegalArgumentException {
        checkRange(hours, 1, LONGEST_ADVICE);
        spareRoad.become(road);
        spareRoad.goBy(hours, plan);
        int most = spareRoad.weightOf(Log.AT_RAFT);
        int best = -1;
        for (int horse = 0; horse < road.horseCount; horse++) {
            spareRoad.become(road);
            spareRoad.strengthen(horse);
            spareRoad.goBy(hours, plan);
            int weight = spareRoad.weightOf(Log.AT_RAFT);
            if (weight > most) {
                most = weight;
                best = horse;
            }
        }
        return best;
    }

    public double mean() {
        int logs = road.logsIn(Log.AT_RAFT);
        return logs > 0 ? (double) road.weightOf(Log.AT_RAFT) / logs : 0.0;
    }

    public long digest() {
        long d = 797;
        for (int what = 0; what < COUNTS; what++) {
            d = d * 31 + count(what);
        }
        for (int s = 0; s < road.stretchCount; s++) {
            for (int what = 0; what < STRETCH_FACTS; what++) {
                d = d * 31 + road.stretchFact(s, what);
            }
        }
        for (int h = 0; h < road.horseCount; h++) {
            for (int what = 0; what < HORSE_FACTS; what++) {
                d = d * 31 + road.horseFact(h, what);
            }
        }
        for (int l = 0; l < road.logCount; l++) {
            for (int what = 0; what < LOG_FACTS; what++) {
                d = d * 31 + road.logFact(l, what);
            }
        }
        return d;
    }

    private static void checkIndex(int index, int bound) {
        if (index < 0 || index >= bound) {
            throw new IndexOutOfBoundsException("there is no such number");
        }
    }

    private static void checkRange(int number, int least, int most) {
        if (number < least || number > most) {
            throw new IllegalArgumentException("the number is out of its range");
        }
    }

    /** What a token can be; those of sums and tests are the steps of a plan too. */
    private enum Sign {
        STRETCH("stretch"), LONG("long"), SLOPE("slope"), FROST("frost"), HORSE("horse"),
        PULL("pull"), LINKS("links"), IRON("iron"), BELL("bell"), LOG("log"), WEIGHT("weight"),
        HAUL("haul"), WITH("with"), WHEN("when"), WAIT("wait"), AT("at"), HOUR("hour"),
        WEATHER("weather"), PILE("pile"), RAFT("raft"), TIRED("tired"), LOAD("load"), FALLEN("fallen"),
        NOT("not", 1), AND("and", 2), OR("or", 2), MIN("min", 2), MAX("max", 2),
        OPEN("("), CLOSE(")"), OPEN_TEST("["), CLOSE_TEST("]"), SEMICOLON(";"), COMMA(","),
        PLUS("+", 2), MINUS("-", 2), TIMES("*", 2), OVER("/", 2),
        LESS("<", 2), MORE(">", 2), SAME("=", 2), AT_MOST("<=", 2), AT_LEAST(">=", 2),
        NAME(""), NUMBER(""), END(""), BAD(""), OPPOSITE("", 1);

        final String text;
        /** How many numbers the step takes from the stack. */
        final int takes;

        Sign(String text) {
            this.text = text;
            this.takes = 0;
        }

        Sign(String text, int takes) {
            this.text = text;
            this.takes = takes;
        }
    }

    /** The tokens of a tape, with an END or a BAD one behind the last. */
    private static final class Tokens {
        private static final Sign[] SIGNS = Sign.values();
        private static final int WORD_BYTES = 10;
        private static final int NUMBER_DIGITS = 6;

        final Sign[] signs;
        final int[] starts;
        /** The number that a number tells, and the code of a name. */
        final long[] values;
        int last;
        private byte[] tape;
        private int length;

        Tokens() {
            signs = new Sign[MOST_TOKENS + 1];
            for (int i = 0; i < signs.length; i++) {
                signs[i] = Sign.END;
            }
            starts = new int[MOST_TOKENS + 1];
            values = new long[MOST_TOKENS + 1];
            last = 0;
            tape = new byte[0];
            length = 0;
        }

        void scan(byte[] bytes, int size) {
            tape = bytes;
            length = Math.max(0, Math.min(size, bytes.length));
            int place = 0;
            for (last = 0; last < MOST_TOKENS; last++) {
                place = behindBlanks(place);
                int end = place < length ? scanToken(place) : place;
                if (end <= place) {
                    break;
                }
                place = end;
            }
            place = behindBlanks(place);
            signs[last] = place < length ? Sign.BAD : Sign.END;
            starts[last] = place;
        }

        private int behindBlanks(int from) {
            int place = from;
            while (place < length && (tape[place] == ' ' || tape[place] == '\n')) {
                place++;
            }
            return place;
        }

        /** Puts the token that begins here, and tells where it ends; nothing is put if that is where it begins. */
        private int scanToken(int from) {
            starts[last] = from;
            int first = tape[from];
            if (isLetter(first)) {
                return scanWord(from);
            }
            return isDigit(first) ? scanNumber(from) : scanSymbol(from);
        }

        private int scanWord(int from) {
            long code = 0;
            int end = from;
            while (end < length && (isLetter(tape[end]) || isDigit(tape[end]))) {
                // A name of ten bytes in base 37 fits into a long; one that is longer is not used.
                code = code * 37 + (isLetter(tape[end]) ? tape[end] - 'a' + 1 : tape[end] - '0' + 27);
                end++;
            }
            if (end - from > WORD_BYTES) {
                return from;
            }
            signs[last] = keywordOrName(from, end);
            values[last] = code;
            return end;
        }

        private Sign keywordOrName(int from, int end) {
            for (int i = 0; i < SIGNS.length; i++) {
                if (isText(SIGNS[i].text, from, end)) {
                    return SIGNS[i];
                }
            }
            return Sign.NAME;
        }

        private boolean isText(String text, int from, int end) {
            if (text.length() != end - from) {
                return false;
            }
            for (int i = 0; i < text.length(); i++) {
                if (text.charAt(i) != tape[from + i]) {
                    return false;
                }
            }
            return true;
        }

        private int scanNumber(int from) {
            long number = 0;
            int end = from;
            while (end < length && isDigit(tape[end])) {
                number = number * 10 + tape[end] - '0';
                end++;
            }
            if (end - from > NUMBER_DIGITS) {
                return from;
            }
            signs[last] = Sign.NUMBER;
            values[last] = number;
            return end;
        }

        private int scanSymbol(int from) {
            for (int size = Math.min(2, length - from); size >= 1; size--) {
                Sign sign = keywordOrName(from, from + size);
                if (sign != Sign.NAME) {
                    signs[last] = sign;
                    return from + size;
                }
            }
            return from;
        }

        private static boolean isLetter(int sign) {
            return sign >= 'a' && sign <= 'z';
        }

        private static boolean isDigit(int sign) {
            return sign >= '0' && sign <= '9';
        }
    }

    /** Reads a list onto a road and into a plan, which are of use only if it has no error. */
    private static final class Reader {
        private static final int WRONG_TOKEN = 1;
        private static final int TOLD_TWICE = 2;
        private static final int NOT_TOLD = 3;
        private static final int TOO_MANY = 4;
        private static final int OUT_OF_RANGE = 5;

        private final Tokens tokens;
        private Road road;
        private Plan plan;
        private int next;
        private boolean broken;
        private int brokenAt;
        // An error 2 to 5 counts only if no error 1 comes behind it, so the reading goes on.
        private int flaw;
        private int flawAt;

        Reader(Road firstRoad, Plan firstPlan) {
            tokens = new Tokens();
            road = firstRoad;
            plan = firstPlan;
            next = 0;
            broken = false;
            brokenAt = -1;
            flaw = 0;
            flawAt = -1;
        }

        int read(byte[] tape, int length, Road newRoad, Plan newPlan) {
            begin(newRoad, newPlan);
            tokens.scan(tape, length);
            for (int line = 0; line <= MOST_TOKENS && !broken && sign() != Sign.END; line++) {
                switch (sign()) {
                    case STRETCH: readStretch(); break;
                    case HORSE: readHorse(); break;
                    case LOG: readLog(); break;
                    case HAUL: readHaul(); break;
                    case WAIT: readWait(); break;
                    default: fail(); break;
                }
                take(Sign.SEMICOLON);
            }
            return broken ? WRONG_TOKEN : flaw;
        }

        private void begin(Road newRoad, Plan newPlan) {
            road = newRoad;
            plan = newPlan;
            road.empty();
            plan.empty();
            next = 0;
            broken = false;
            brokenAt = -1;
            flaw = 0;
            flawAt = -1;
        }

        int errorPlace() {
            return broken ? brokenAt : flawAt;
        }

        private void readStretch() {
            skip();
            checkNew(road.findStretch(value()) >= 0, road.stretchCount >= MOST_STRETCHES);
            long name = takeName();
            take(Sign.LONG);
            int length = takeNumber(1, 9);
            take(Sign.SLOPE);
            boolean falls = tryTake(Sign.MINUS);
            int slope = takeNumber(0, 9);
            take(Sign.FROST);
            int frost = takeNumber(0, MOST_FROST);
            road.addStretch(name, length, falls ? -slope : slope, frost);
        }

        private void readHorse() {
            skip();
            checkNew(road.findHorse(value()) >= 0, road.horseCount >= MOST_HORSES);
            long name = takeName();
            take(Sign.PULL);
            int pull = takeNumber(1, 99);
            take(Sign.LINKS);
            int links = takeNumber(1, MOST_LINKS);
            take(Sign.IRON);
            int iron = takeNumber(1, 99);
            boolean bell = tryTake(Sign.BELL);
            road.addHorse(name, pull, links, iron, bell);
        }

        private void readLog() {
            skip();
            checkNew(road.findLog(value()) >= 0, road.logCount >= MOST_LOGS);
            long name = takeName();
            take(Sign.WEIGHT);
            road.addLog(name, takeNumber(1, 60));
        }

        private void readHaul() {
            checkNew(false, plan.haulCount >= MOST_ORDERS);
            skip();
            int horse = takeHorse();
            take(Sign.WITH);
            int from = plan.size;
            readSum(0);
            int middle = plan.size;
            if (tryTake(Sign.WHEN)) {
                readTest(0);
            }
            plan.addHaul(horse, from, middle);
        }

        private void readWait() {
            checkNew(false, plan.waitCount >= MOST_ORDERS);
            skip();
            int horse = takeHorse();
            take(Sign.AT);
            int place = takeStretch();
            take(Sign.WHEN);
            int from = plan.size;
            readTest(0);
            plan.addWait(horse, place, from);
        }

        private void readTest(int depth) {
            readBoth(depth);
            for (int i = 0; i < MOST_TOKENS && tryTake(Sign.OR); i++) {
                readBoth(depth);
                plan.addStep(Sign.OR, 0);
            }
        }

        private void readBoth(int depth) {
            readSingle(depth);
            for (int i = 0; i < MOST_TOKENS && tryTake(Sign.AND); i++) {
                readSingle(depth);
                plan.addStep(Sign.AND, 0);
            }
        }

        private void readSingle(int depth) {
            if (sign() == Sign.NOT) {
                if (goesDeeper(depth)) {
                    readSingle(depth + 1);
                    plan.addStep(Sign.NOT, 0);
                }
            } else if (sign() == Sign.OPEN_TEST) {
                if (goesDeeper(depth)) {
                    readTest(depth + 1);
                    take(Sign.CLOSE_TEST);
                }
            } else {
                readSum(depth);
                Sign comparison = takeComparison();
                readSum(depth);
                plan.addStep(comparison, 0);
            }
        }

        private void readSum(int depth) {
            readProduct(depth);
            for (int i = 0; i < MOST_TOKENS && (sign() == Sign.PLUS || sign() == Sign.MINUS); i++) {
                Sign operation = sign();
                skip();
                readProduct(depth);
                plan.addStep(operation, 0);
            }
        }

        private void readProduct(int depth) {
            readValue(depth);
            for (int i = 0; i < MOST_TOKENS && (sign() == Sign.TIMES || sign() == Sign.OVER); i++) {
                Sign operation = sign();
                skip();
                readValue(depth);
                plan.addStep(operation, 0);
            }
        }

        private void readValue(int depth) {
            Sign sign = sign();
            switch (sign) {
                case NUMBER:
                    plan.addStep(sign, (int) value());
                    skip();
                    break;
                case HOUR: case WEATHER: case PILE: case RAFT:
                    plan.addStep(sign, 0);
                    skip();
                    break;
                case TIRED: case LOAD: case LINKS:
                    skip();
                    plan.addStep(sign, takeHorse());
                    break;
                case FROST: case FALLEN:
                    skip();
                    plan.addStep(sign, takeStretch());
                    break;
                case MINUS:
                    if (goesDeeper(depth)) {
                        readValue(depth + 1);
                        plan.addStep(Sign.OPPOSITE, 0);
                    }
                    break;
                case OPEN:
                    if (goesDeeper(depth)) {
                        readSum(depth + 1);
                        take(Sign.CLOSE);
                    }
                    break;
                case MIN: case MAX:
                    skip();
                    readPair(sign, depth);
                    break;
                default:
                    fail();
                    break;
            }
        }

        private void readPair(Sign operation, int depth) {
            if (sign() != Sign.OPEN) {
                fail();
            } else if (goesDeeper(depth)) {
                readSum(depth + 1);
                take(Sign.COMMA);
                readSum(depth + 1);
                take(Sign.CLOSE);
                plan.addStep(operation, 0);
            }
        }

        private boolean goesDeeper(int depth) {
            if (depth >= DEEPEST) {
                fail();
                return false;
            }
            skip();
            return true;
        }

        private void checkNew(boolean twice, boolean full) {
            if (twice) {
                noteFlaw(TOLD_TWICE);
            } else if (full) {
                noteFlaw(TOO_MANY);
            }
        }

        private Sign takeComparison() {
            Sign sign = sign();
            switch (sign) {
                case LESS: case MORE: case SAME: case AT_MOST: case AT_LEAST:
                    skip();
                    break;
                default:
                    fail();
                    break;
            }
            return sign;
        }

        private long takeName() {
            long name = value();
            take(Sign.NAME);
            return name;
        }

        private int takeHorse() {
            int horse = road.findHorse(value());
            if (horse < 0) {
                noteFlaw(NOT_TOLD);
            }
            take(Sign.NAME);
            return horse;
        }

        private int takeStretch() {
            int place = road.findStretch(value());
            if (place < 0) {
                noteFlaw(NOT_TOLD);
            }
            take(Sign.NAME);
            return place;
        }

        private int takeNumber(int least, int most) {
            long number = value();
            if (number < least || number > most) {
                noteFlaw(OUT_OF_RANGE);
            }
            take(Sign.NUMBER);
            return (int) number;
        }

        private void noteFlaw(int error) {
            if (flaw == 0) {
                flaw = error;
                flawAt = tokens.starts[next];
            }
        }

        private boolean tryTake(Sign sign) {
            if (sign() != sign) {
                return false;
            }
            skip();
            return true;
        }

        private void take(Sign sign) {
            if (sign() == sign) {
                skip();
            } else {
                fail();
            }
        }

        /** Goes to the end at once, since nothing of the grammar goes on there. */
        private void fail() {
            if (!broken) {
                broken = true;
                brokenAt = tokens.starts[next];
            }
            next = tokens.last;
        }

        private void skip() {
            if (next < tokens.last) {
                next++;
            }
        }

        private Sign sign() {
            return tokens.signs[next];
        }

        private long value() {
            return tokens.values[next];
        }
    }

    /** A haul or a wait: whose, where, and the steps of its sum and of its test in the plan. */
    private static final class Order {
        int horse;
        int place;
        int from;
        int middle;
        int to;

        void tell(int newHorse, int newPlace, int newFrom, int newMiddle, int newTo) {
            horse = newHorse;
            place = newPlace;
            from = newFrom;
            middle = newMiddle;
            to = newTo;
        }
    }

    /** The hauls and waits of a list, their sums and tests as steps for a stack. */
    private static final class Plan {
        final Order[] hauls;
        final Order[] waits;
        final Sign[] signs;
        final int[] numbers;
        final int[] stack;
        int haulCount;
        int waitCount;
        int size;

        Plan() {
            hauls = new Order[MOST_ORDERS];
            waits = new Order[MOST_ORDERS];
            for (int i = 0; i < MOST_ORDERS; i++) {
                hauls[i] = new Order();
                waits[i] = new Order();
            }
            signs = new Sign[MOST_TOKENS];
            for (int i = 0; i < signs.length; i++) {
                signs[i] = Sign.NUMBER;
            }
            numbers = new int[MOST_TOKENS];
            // One more than the steps, so that behind every number there is a place for a second one.
            stack = new int[MOST_TOKENS + 1];
            haulCount = 0;
            waitCount = 0;
            size = 0;
        }

        void empty() {
            haulCount = 0;
            waitCount = 0;
            size = 0;
        }

        void addStep(Sign sign, int number) {
            if (size < MOST_TOKENS) {
                signs[size] = sign;
                numbers[size] = number;
                size++;
            }
        }

        void addHaul(int horse, int from, int middle) {
            if (haulCount < MOST_ORDERS) {
                hauls[haulCount].tell(horse, FOREST, from, middle, size);
                haulCount++;
            }
        }

        void addWait(int horse, int place, int from) {
            if (waitCount < MOST_ORDERS) {
                waits[waitCount].tell(horse, place, from, from, size);
                waitCount++;
            }
        }

        /** The most weight that the horse hauls now; 0 if it hauls nothing. */
        int mostWeight(int horse, Road road) {
            for (int i = 0; i < haulCount; i++) {
                Order haul = hauls[i];
                if (haul.horse == horse
                        && (haul.middle == haul.to || reckon(haul.middle, haul.to, road) != 0)) {
                    return reckon(haul.from, haul.middle, road);
                }
            }
            return 0;
        }

        boolean waitsNow(int horse, int place, Road road) {
            for (int i = 0; i < waitCount; i++) {
                Order wait = waits[i];
                if (wait.horse == horse && wait.place == place && reckon(wait.from, wait.to, road) != 0) {
                    return true;
                }
            }
            return false;
        }

        private int reckon(int from, int to, Road road) {
            int height = 0;
            for (int i = from; i < to; i++) {
                Sign sign = signs[i];
                height -= sign.takes;
                if (height < 0 || height >= MOST_TOKENS) {
                    return 0;
                }
                stack[height] = sign.takes == 0
                        ? found(sign, numbers[i], road)
                        : joined(sign, stack[height], stack[height + 1]);
                height++;
            }
            return stack[0];
        }

        private static int found(Sign sign, int number, Road road) {
            switch (sign) {
                case NUMBER: return number;
                case HOUR: return road.hour;
                case WEATHER: return road.weather;
                case PILE: return road.weightOf(Log.IN_PILE);
                case RAFT: return road.weightOf(Log.AT_RAFT);
                case TIRED: return road.tiredOf(number);
                case LOAD: return road.loadOf(number);
                case LINKS: return road.linksOf(number);
                case FROST: return road.frostOf(number);
                case FALLEN: return road.fallenOn(number);
                default: return 0;
            }
        }

        private static int joined(Sign sign, int left, int right) {
            switch (sign) {
                case PLUS: return left + right;
                case MINUS: return left - right;
                case TIMES: return left * right;
                case OVER: return right == 0 ? 0 : left / right;
                case OPPOSITE: return -left;
                case MIN: return Math.min(left, right);
                case MAX: return Math.max(left, right);
                case LESS: return left < right ? 1 : 0;
                case MORE: return left > right ? 1 : 0;
                case SAME: return left == right ? 1 : 0;
                case AT_MOST: return left <= right ? 1 : 0;
                case AT_LEAST: return left >= right ? 1 : 0;
                case NOT: return 1 - left;
                case AND: return left & right;
                case OR: return left | right;
                default: return 0;
            }
        }
    }

    private static final class Stretch {
        long name;
        int length;
        int slope;
        int frost;

        void tell(long newName, int newLength, int newSlope, int newFrost) {
            name = newName;
            length = newLength;
            slope = newSlope;
            frost = newFrost;
        }

        void become(Stretch other) {
            tell(other.name, other.length, other.slope, other.frost);
        }
    }

    private static final class Horse {
        long name;
        int pull;
        int links;
        int iron;
        boolean bell;
        int place;
        boolean down;
        int units;
        int tired;
        int brought;
        boolean moved;

        void tell(long newName, int newPull, int newLinks, int newIron, boolean newBell) {
            name = newName;
            pull = newPull;
            links = newLinks;
            iron = newIron;
            bell = newBell;
            place = FOREST;
            down = false;
            units = 0;
            tired = 0;
            brought = 0;
            moved = false;
        }

        void become(Horse other) {
            tell(other.name, other.pull, other.links, other.iron, other.bell);
            place = other.place;
            down = other.down;
            units = other.units;
            tired = other.tired;
            brought = other.brought;
            moved = other.moved;
        }

        void stand(int newPlace, boolean newDown, int newUnits) {
            place = newPlace;
            down = newDown;
            units = newUnits;
        }

        void tire(int more) {
            tired = Math.max(0, Math.min(MOST_TIRED, tired + more));
        }
    }

    private static final class Log {
        static final int IN_PILE = 0;
        static final int ON_SLEDGE = 1;
        static final int FALLEN = 2;
        static final int AT_RAFT = 3;

        long name;
        int weight;
        int state;
        int where;
        int raftHour;

        void tell(long newName, int newWeight) {
            name = newName;
            weight = newWeight;
            lie(IN_PILE, -1);
            raftHour = -1;
        }

        void become(Log other) {
            tell(other.name, other.weight);
            lie(other.state, other.where);
            raftHour = other.raftHour;
        }

        void lie(int newState, int newWhere) {
            state = newState;
            where = newWhere;
        }
    }

    /** The stretches, horses and logs, and how an hour goes for them. */
    private static final class Road {
        final Stretch[] stretches;
        final Horse[] horses;
        final Log[] logs;
        int stretchCount;
        int horseCount;
        int logCount;
        int hour;
        int weather;
        int brokenChains;

        Road() {
            stretches = new Stretch[MOST_STRETCHES];
            for (int s = 0; s < MOST_STRETCHES; s++) {
                stretches[s] = new Stretch();
            }
            horses = new Horse[MOST_HORSES];
            for (int h = 0; h < MOST_HORSES; h++) {
                horses[h] = new Horse();
            }
            logs = new Log[MOST_LOGS];
            for (int l = 0; l < MOST_LOGS; l++) {
                logs[l] = new Log();
            }
            stretchCount = 0;
            horseCount = 0;
            logCount = 0;
            hour = 0;
            weather = 0;
            brokenChains = 0;
        }

        void empty() {
            stretchCount = 0;
            horseCount = 0;
            logCount = 0;
            brokenChains = 0;
        }

        void become(Road other) {
            stretchCount = other.stretchCount;
            for (int s = 0; s < stretchCount; s++) {
                stretches[s].become(other.stretches[s]);
            }
            horseCount = other.horseCount;
            for (int h = 0; h < horseCount; h++) {
                horses[h].become(other.horses[h]);
            }
            logCount = other.logCount;
            for (int l = 0; l < logCount; l++) {
                logs[l].become(other.logs[l]);
            }
            hour = other.hour;
            weather = other.weather;
            brokenChains = other.brokenChains;
        }

        void addStretch(long name, int length, int slope, int frost) {
            if (stretchCount < MOST_STRETCHES) {
                stretches[stretchCount].tell(name, length, slope, frost);
                stretchCount++;
            }
        }

        void addHorse(long name, int pull, int links, int iron, boolean bell) {
            if (horseCount < MOST_HORSES) {
                horses[horseCount].tell(name, pull, links, iron, bell);
                horseCount++;
            }
        }

        void addLog(long name, int weight) {
            if (logCount < MOST_LOGS) {
                logs[logCount].tell(name, weight);
                logCount++;
            }
        }

        int findStretch(long name) {
            for (int s = 0; s < stretchCount; s++) {
                if (stretches[s].name == name) {
                    return s;
                }
            }
            return -1;
        }

        int findHorse(long name) {
            for (int h = 0; h < horseCount; h++) {
                if (horses[h].name == name) {
                    return h;
                }
            }
            return -1;
        }

        int findLog(long name) {
            for (int l = 0; l < logCount; l++) {
                if (logs[l].name == name) {
                    return l;
                }
            }
            return -1;
        }

        private boolean hasStretch(int s) {
            return s >= 0 && s < stretchCount;
        }

        private boolean hasHorse(int h) {
            return h >= 0 && h < horseCount;
        }

        int total(int what) {
            switch (what) {
                case 0: return hour;
                case 1: return weather;
                case 2: return stretchCount;
                case 3: return horseCount;
                case 4: return logCount;
                case 5: return weightOf(Log.IN_PILE);
                case 6: return weightOf(Log.AT_RAFT);
                case 7: return logsIn(Log.AT_RAFT);
                case 8: return logsIn(Log.FALLEN);
                case 9: return horseCount - horsesOn(FOREST);
                case 10: return allLinks();
                default: return brokenChains;
            }
        }

        int stretchFact(int s, int what) {
            if (!hasStretch(s)) {
                return 0;
            }
            Stretch stretch = stretches[s];
            switch (what) {
                case 0: return stretch.length;
                case 1: return stretch.slope;
                case 2: return stretch.frost;
                case 3: return horsesOn(s);
                default: return fallenOn(s);
            }
        }

        int horseFact(int h, int what) {
            if (!hasHorse(h)) {
                return 0;
            }
            Horse horse = horses[h];
            switch (what) {
                case 0: return horse.pull;
                case 1: return horse.links;
                case 2: return horse.iron;
                case 3: return horse.bell ? 1 : 0;
                case 4: return horse.place;
                case 5: return horse.down ? 1 : 0;
                case 6: return horse.units;
                case 7: return loadOf(h);
                case 8: return horse.tired;
                default: return horse.brought;
            }
        }

        int logFact(int l, int what) {
            if (l < 0 || l >= logCount) {
                return 0;
            }
            Log log = logs[l];
            switch (what) {
                case 0: return log.weight;
                case 1: return log.state;
                case 2: return log.where;
                default: return log.raftHour;
            }
        }

        int weightOf(int state) {
            int weight = 0;
            for (int l = 0; l < logCount; l++) {
                weight += logs[l].state == state ? logs[l].weight : 0;
            }
            return weight;
        }

        int logsIn(int state) {
            int found = 0;
            for (int l = 0; l < logCount; l++) {
                found += logs[l].state == state ? 1 : 0;
            }
            return found;
        }

        boolean isAtRaft(int l) {
            return l >= 0 && l < logCount && logs[l].state == Log.AT_RAFT;
        }

        private int horsesOn(int place) {
            int found = 0;
            for (int h = 0; h < horseCount; h++) {
                found += horses[h].place == place ? 1 : 0;
            }
            return found;
        }

        private int allLinks() {
            int links = 0;
            for (int h = 0; h < horseCount; h++) {
                links += horses[h].links;
            }
            return links;
        }

        int tiredOf(int h) {
            return hasHorse(h) ? horses[h].tired : 0;
        }

        int linksOf(int h) {
            return hasHorse(h) ? horses[h].links : 0;
        }

        int loadOf(int h) {
            int load = 0;
            for (int l = 0; l < logCount; l++) {
                Log log = logs[l];
                load += log.state == Log.ON_SLEDGE && log.where == h ? log.weight : 0;
            }
            return load;
        }

        int frostOf(int s) {
            return hasStretch(s) ? stretches[s].frost : 0;
        }

        int fallenOn(int s) {
            int fallen = 0;
            for (int l = 0; l < logCount; l++) {
                Log log = logs[l];
                fallen += log.state == Log.FALLEN && log.where == s ? 1 : 0;
            }
            return fallen;
        }

        int need(int h, int s) {
            if (!hasStretch(s)) {
                return 0;
            }
            return Math.max(0, loadOf(h) * (10 + stretches[s].slope) / 10 - stretches[s].frost);
        }

        int addLinks(int h, int links) {
            if (!hasHorse(h)) {
                return 0;
            }
            horses[h].links = Math.min(MOST_LINKS, horses[h].links + links);
            return horses[h].links;
        }

        void strengthen(int h) {
            if (hasHorse(h)) {
                horses[h].iron += MORE_IRON;
            }
        }

        int bringBack(int s) {
            int found = 0;
            for (int l = 0; l < logCount; l++) {
                Log log = logs[l];
                if (log.state == Log.FALLEN && log.where == s) {
                    log.lie(Log.IN_PILE, -1);
                    found++;
                }
            }
            return found;
        }

        void goBy(int hours, Plan plan) {
            for (int passed = 0; passed < hours; passed++) {
                for (int h = 0; h < horseCount; h++) {
                    horses[h].moved = false;
                    sendOut(h, plan);
                }
                for (int h = 0; h < horseCount; h++) {
                    move(h, plan);
                }
                freeze();
                hour++;
            }
        }

        private void sendOut(int h, Plan plan) {
            Horse horse = horses[h];
            if (horse.place != FOREST || horse.links <= 0 || stretchCount == 0) {
                return;
            }
            if (putOnSledge(h, plan.mostWeight(h, this))) {
                horse.stand(0, true, 0);
                horse.moved = true;
            }
        }

        private boolean putOnSledge(int h, int most) {
            int load = 0;
            int put = 0;
            for (int l = 0; l < logCount && put < MOST_ON_SLEDGE; l++) {
                if (logs[l].state == Log.IN_PILE && load + logs[l].weight <= most) {
                    logs[l].lie(Log.ON_SLEDGE, h);
                    load += logs[l].weight;
                    put++;
                }
            }
            return put > 0;
        }

        private void move(int h, Plan plan) {
            Horse horse = horses[h];
            if (horse.moved || !hasStretch(horse.place)) {
                return;
            }
            int need = horse.down ? need(h, horse.place) : 0;
            if (plan.waitsNow(h, horse.place, this)) {
                horse.tire(-2);
            } else if (need > horse.iron) {
                breakChain(h);
            } else if (need > horse.pull - horse.tired) {
                horse.tire(-4);
            } else {
                goOn(h, need);
            }
        }

        private void breakChain(int h) {
            Horse horse = horses[h];
            horse.links--;
            brokenChains++;
            for (int l = 0; l < logCount; l++) {
                Log log = logs[l];
                if (log.state == Log.ON_SLEDGE && log.where == h) {
                    log.lie(Log.FALLEN, horse.place);
                }
            }
            horse.stand(horse.place, false, stretches[horse.place].length - 1 - horse.units);
        }

        private void goOn(int h, int need) {
            Horse horse = horses[h];
            Stretch stretch = stretches[horse.place];
            boolean glides = horse.down && stretch.slope < 0 && stretch.frost > 5;
            horse.units += glides ? 2 : 1;
            horse.tire(horse.down ? need / 8 : -1);
            if (horse.units >= stretch.length) {
                leave(h, stretch.length);
            }
        }

        private void leave(int h, int length) {
            Horse horse = horses[h];
            int to = horse.place + (horse.down ? 1 : -1);
            if (to >= stretchCount) {
                unload(h);
                horse.stand(horse.place, false, 0);
            } else if (to < 0) {
                horse.stand(FOREST, false, 0);
            } else if (canGo(horse, to)) {
                stopOthers(horse, to);
                horse.stand(to, horse.down, 0);
            } else {
                horse.units = length - 1;
            }
        }

        private void unload(int h) {
            for (int l = 0; l < logCount; l++) {
                Log log = logs[l];
                if (log.state == Log.ON_SLEDGE && log.where == h) {
                    log.lie(Log.AT_RAFT, -1);
                    log.raftHour = hour;
                    horses[h].brought += log.weight;
                }
            }
        }

        private boolean canGo(Horse horse, int to) {
            for (int h = 0; h < horseCount; h++) {
                Horse other = horses[h];
                if (other.place == to && other.down != horse.down && (!horse.bell || other.bell)) {
                    return false;
                }
            }
            return true;
        }

        private void stopOthers(Horse horse, int to) {
            for (int h = 0; h < horseCount; h++) {
                if (horses[h].place == to && horses[h].down != horse.down) {
                    horses[h].moved = true;
                }
            }
        }

        private void freeze() {
            if (hour % 6 != 0) {
                return;
            }
            for (int s = 0; s < stretchCount; s++) {
                stretches[s].frost = Math.max(0, Math.min(MOST_FROST, stretches[s].frost + weather));
            }
        }
    }
}
