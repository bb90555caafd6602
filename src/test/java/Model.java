import java.util.ArrayList;
import java.util.HashMap;
import java.util.HashSet;
import java.util.LinkedHashMap;
import java.util.List;
import java.util.Map;
import java.util.Set;
import java.util.TreeSet;
import java.util.regex.Matcher;
import java.util.regex.Pattern;

/**
 * The document once more, by other means, to compare FjordHaul with: a table of the grammar and a stack
 * find error 1, a walk over the tokens the others, and sums are reckoned from their tokens by splitting.
 */
final class Model {
    record Token(String kind, String text, int at) { }

    static final Set<String> KEYWORDS = Set.of(("stretch long slope frost horse pull links iron bell log weight haul"
            + " with when wait at hour weather pile raft tired load fallen not and or min max").split(" "));
    private static final Pattern TOKEN =
            Pattern.compile("([a-z][a-z0-9]*)|([0-9]+)|(<=|>=|[\\[\\]();,+*/<>=-])");
    private static final Map<String, List<List<String>>> GRAMMAR = new LinkedHashMap<>();
    private static final Map<String, Set<String>> FIRST = new HashMap<>();
    private static final Set<String> NULLABLE = new HashSet<>();

    static {
        rule("List", "Line ; List |");
        rule("Line", "stretch NAME long NUM slope Sign NUM frost NUM | horse NAME pull NUM links NUM iron NUM Bell"
                + " | log NAME weight NUM | haul NAME with Sum When | wait NAME at NAME when Test");
        rule("Sign", "- |");
        rule("Bell", "bell |");
        rule("When", "when Test |");
        rule("Test", "Both Ors");
        rule("Ors", "or Both Ors |");
        rule("Both", "Single Ands");
        rule("Ands", "and Single Ands |");
        rule("Single", "not DEEP Single FLAT | [ DEEP Test FLAT ] | Sum Than Sum");
        rule("Than", "< | > | = | <= | >=");
        rule("Sum", "Product Terms");
        rule("Terms", "+ Product Terms | - Product Terms |");
        rule("Product", "Value Factors");
        rule("Factors", "* Value Factors | / Value Factors |");
        rule("Value", "NUM | hour | weather | pile | raft | tired NAME | load NAME | links NAME | frost NAME"
                + " | fallen NAME | - DEEP Value FLAT | ( DEEP Sum FLAT ) | Pair ( DEEP Sum , Sum FLAT )");
        rule("Pair", "min | max");
        findFirsts();
    }

    private static void rule(String left, String right) {
        List<List<String>> all = new ArrayList<>();
        for (String way : right.split("\\|", -1)) {
            all.add(way.isBlank() ? List.of() : List.of(way.trim().split(" +")));
        }
        GRAMMAR.put(left, all);
        FIRST.put(left, new HashSet<>());
    }

    private static void findFirsts() {
        boolean grows = true;
        while (grows) {
            grows = false;
            for (String left : GRAMMAR.keySet()) {
                for (List<String> way : GRAMMAR.get(left)) {
                    if (way.isEmpty()) {
                        grows |= NULLABLE.add(left);
                    } else {
                        grows |= FIRST.get(left).addAll(first(way.get(0)));
                    }
                }
            }
        }
    }

    private static Set<String> first(String symbol) {
        return GRAMMAR.containsKey(symbol) ? FIRST.get(symbol) : Set.of(symbol);
    }

    // ---- things

    static final class Stretch {
        String name;
        int length;
        int slope;
        int frost;
        final Set<Log> fallen = new TreeSet<>();
    }

    static final class Horse {
        String name;
        int number;
        int pull;
        int links;
        int iron;
        boolean bell;
        int at = -1;
        int way = 0;
        int gone = 0;
        int tired = 0;
        int brought = 0;
        final Set<Log> sledge = new TreeSet<>();

        int load() {
            return sum(sledge);
        }
    }

    static final class Log implements Comparable<Log> {
        String name;
        int number;
        int weight;
        int raftHour = -1;

        @Override public int compareTo(Log other) {
            return Integer.compare(number, other.number);
        }
    }

    /** The horse of a haul or a wait, the stretch of a wait, and the tokens of sum and test. */
    record Order(int horse, int at, List<Token> sum, List<Token> test) { }

    static int sum(Iterable<Log> logs) {
        int weight = 0;
        for (Log log : logs) {
            weight += log.weight;
        }
        return weight;
    }

    List<Byte> tape = new ArrayList<>();
    int errorAt = -1;
    int hour = 0;
    int weather = 0;
    int broken = 0;
    List<Stretch> stretches = new ArrayList<>();
    List<Horse> horses = new ArrayList<>();
    List<Log> logs = new ArrayList<>();
    Set<Log> pile = new TreeSet<>();
    Set<Log> raft = new TreeSet<>();
    List<Order> hauls = new ArrayList<>();
    List<Order> waits = new ArrayList<>();
    private Set<Horse> moved = new HashSet<>();

    // ---- the language

    int feed(int... numbers) {
        if (tape.size() + 20 > 2000) {
            throw new IllegalStateException();
        }
        for (int number : numbers) {
            tape.add((byte) (number >>> 24));
            tape.add((byte) (number >>> 16));
            tape.add((byte) (number >>> 8));
            tape.add((byte) number);
        }
        return tape.size();
    }

    int trim(int n) {
        range(n, 0, tape.size());
        tape = new ArrayList<>(tape.subList(0, n));
        return n;
    }

    int teach() {
        StringBuilder text = new StringBuilder();
        for (byte b : tape) {
            text.append((char) (b & 255));
        }
        tape.clear();
        List<Token> tokens = tokens(text.toString());
        errorAt = wrongToken(tokens);
        if (errorAt >= 0) {
            return 1;
        }
        int error = flaw(tokens);
        if (error == 0) {
            build(tokens);
        }
        return error;
    }

    /** Ends with END, or with BAD where no token is, or one too long, or the 401st. */
    private static List<Token> tokens(String text) {
        List<Token> tokens = new ArrayList<>();
        Matcher matcher = TOKEN.matcher(text);
        int at = 0;
        while (true) {
            while (at < text.length() && " \n".indexOf(text.charAt(at)) >= 0) {
                at++;
            }
            if (at == text.length()) {
                tokens.add(new Token("END", "", at));
                return tokens;
            }
            if (tokens.size() == 400 || !matcher.find(at) || matcher.start() != at
                    || matcher.group(1) != null && matcher.group().length() > 10
                    || matcher.group(2) != null && matcher.group().length() > 6) {
                tokens.add(new Token("BAD", "", at));
                return tokens;
            }
            String word = matcher.group();
            String kind = word;
            if (matcher.group(2) != null) {
                kind = "NUM";
            } else if (matcher.group(1) != null && !KEYWORDS.contains(word)) {
                kind = "NAME";
            }
            tokens.add(new Token(kind, word, at));
            at = matcher.end();
        }
    }

    private static int wrongToken(List<Token> tokens) {
        List<String> stack = new ArrayList<>(List.of("END", "List"));
        int depth = 0;
        int i = 0;
        while (!stack.isEmpty()) {
            String top = stack.remove(stack.size() - 1);
            Token token = tokens.get(i);
            if (top.equals("DEEP")) {
                depth++;
                if (depth > 8) {
                    return tokens.get(i - 1).at;
                }
            } else if (top.equals("FLAT")) {
                depth--;
            } else if (GRAMMAR.containsKey(top)) {
                List<String> way = null;
                for (List<String> one : GRAMMAR.get(top)) {
                    if (!one.isEmpty() && first(one.get(0)).contains(token.kind)) {
                        way = one;
                    }
                }
                if (way == null) {
                    if (!NULLABLE.contains(top)) {
                        return token.at;
                    }
                    way = List.of();
                }
                for (int k = way.size() - 1; k >= 0; k--) {
                    stack.add(way.get(k));
                }
            } else {
                if (!top.equals(token.kind)) {
                    return token.at;
                }
                i++;
            }
        }
        return -1;
    }

    private int flaw(List<Token> tokens) {
        Map<String, Set<String>> told = Map.of("stretch", new HashSet<>(), "horse", new HashSet<>(),
                "log", new HashSet<>());
        Map<String, Integer> most = Map.of("stretch", 8, "horse", 6, "log", 20);
        Map<String, Integer> orders = new HashMap<>(Map.of("haul", 0, "wait", 0));
        String line = "";
        for (int i = 0; i < tokens.size(); i++) {
            Token token = tokens.get(i);
            String before = i == 0 ? ";" : tokens.get(i - 1).kind;
            if (before.equals(";")) {
                line = token.kind;
            }
            int error = 0;
            if (orders.containsKey(token.kind) && orders.merge(token.kind, 1, Integer::sum) > 12) {
                error = 4;
            } else if (token.kind.equals("NAME") && told.containsKey(before)) {
                if (!told.get(before).add(token.text)) {
                    error = 2;
                } else if (told.get(before).size() > most.get(before)) {
                    error = 4;
                }
            } else if (token.kind.equals("NAME")) {
                String sort = Set.of("at", "frost", "fallen").contains(before) ? "stretch" : "horse";
                error = told.get(sort).contains(token.text) ? 0 : 3;
            } else if (token.kind.equals("NUM") && told.containsKey(line)) {
                error = inRange(before, Integer.parseInt(token.text)) ? 0 : 5;
            }
            if (error != 0) {
                errorAt = token.at;
                return error;
            }
        }
        return 0;
    }

    private static boolean inRange(String before, int number) {
        switch (before) {
            case "long": case "links": return number >= 1 && number <= 9;
            case "slope": case "-": case "frost": return number <= 9;
            case "pull": case "iron": return number >= 1 && number <= 99;
            default: return number >= 1 && number <= 60;
        }
    }

    private void build(List<Token> tokens) {
        stretches = new ArrayList<>();
        horses = new ArrayList<>();
        logs = new ArrayList<>();
        pile = new TreeSet<>();
        raft = new TreeSet<>();
        hauls = new ArrayList<>();
        waits = new ArrayList<>();
        broken = 0;
        List<Token> line = new ArrayList<>();
        for (Token token : tokens) {
            if (token.kind.equals(";")) {
                buildLine(line);
                line = new ArrayList<>();
            } else {
                line.add(token);
            }
        }
    }

    private void buildLine(List<Token> line) {
        String name = line.get(1).text;
        List<Integer> numbers = new ArrayList<>();
        for (Token token : line) {
            if (token.kind.equals("NUM")) {
                numbers.add(Integer.parseInt(token.text));
            }
        }
        int when = kindAt(line, "when");
        switch (line.get(0).kind) {
            case "stretch":
                Stretch stretch = new Stretch();
                stretch.name = name;
                stretch.length = numbers.get(0);
                stretch.slope = kindAt(line, "-") >= 0 ? 0 - numbers.get(1) : numbers.get(1);
                stretch.frost = numbers.get(2);
                stretches.add(stretch);
                break;
            case "horse":
                Horse horse = new Horse();
                horse.name = name;
                horse.number = horses.size();
                horse.pull = numbers.get(0);
                horse.links = numbers.get(1);
                horse.iron = numbers.get(2);
                horse.bell = kindAt(line, "bell") >= 0;
                horses.add(horse);
                break;
            case "log":
                Log log = new Log();
                log.name = name;
                log.number = logs.size();
                log.weight = numbers.get(0);
                logs.add(log);
                pile.add(log);
                break;
            case "haul":
                hauls.add(new Order(horseNamed(name), -1, line.subList(3, when < 0 ? line.size() : when),
                        when < 0 ? List.of() : line.subList(when + 1, line.size())));
                break;
            default:
                waits.add(new Order(horseNamed(name), stretchNamed(line.get(3).text), List.of(),
                        line.subList(when + 1, line.size())));
                break;
        }
    }

    private static int kindAt(List<Token> line, String kind) {
        for (int i = 0; i < line.size(); i++) {
            if (line.get(i).kind.equals(kind)) {
                return i;
            }
        }
        return -1;
    }

    private int horseNamed(String name) {
        for (Horse horse : horses) {
            if (horse.name.equals(name)) {
                return horse.number;
            }
        }
        throw new AssertionError(name);
    }

    private int stretchNamed(String name) {
        for (int i = 0; i < stretches.size(); i++) {
            if (stretches.get(i).name.equals(name)) {
                return i;
            }
        }
        throw new AssertionError(name);
    }

    // ---- sums and tests, from their tokens

    private boolean holds(List<Token> test) {
        int split = lastBinary(test, Set.of("or"));
        if (split >= 0) {
            return holds(test.subList(0, split)) | holds(test.subList(split + 1, test.size()));
        }
        split = lastBinary(test, Set.of("and"));
        if (split >= 0) {
            return holds(test.subList(0, split)) & holds(test.subList(split + 1, test.size()));
        }
        if (test.get(0).kind.equals("not")) {
            return !holds(test.subList(1, test.size()));
        }
        if (test.get(0).kind.equals("[")) {
            return holds(test.subList(1, test.size() - 1));
        }
        split = lastBinary(test, Set.of("<", ">", "=", "<=", ">="));
        int left = reckon(test.subList(0, split));
        int right = reckon(test.subList(split + 1, test.size()));
        switch (test.get(split).kind) {
            case "<": return left < right;
            case ">": return left > right;
            case "=": return left == right;
            case "<=": return left <= right;
            default: return left >= right;
        }
    }

    /** The last of these signs that stands outside of brackets and between two parts. */
    private static int lastBinary(List<Token> tokens, Set<String> signs) {
        int open = 0;
        for (int i = tokens.size() - 1; i > 0; i--) {
            String kind = tokens.get(i).kind;
            open += ")]".contains(kind) ? 1 : 0;
            open -= "([".contains(kind) ? 1 : 0;
            String before = tokens.get(i - 1).kind;
            boolean behindValue = Set.of("NUM", "NAME", "hour", "weather", "pile", "raft", ")", "]").contains(before);
            if (open == 0 && signs.contains(kind) && behindValue) {
                return i;
            }
        }
        return -1;
    }

    private int reckon(List<Token> sum) {
        int split = lastBinary(sum, Set.of("+", "-"));
        if (split < 0) {
            split = lastBinary(sum, Set.of("*", "/"));
        }
        if (split >= 0) {
            long left = reckon(sum.subList(0, split));
            long right = reckon(sum.subList(split + 1, sum.size()));
            switch (sum.get(split).kind) {
                case "+": return (int) (left + right);
                case "-": return (int) (left - right);
                case "*": return (int) (left * right);
                default: return right == 0 ? 0 : (int) (left / right);
            }
        }
        List<Token> rest = sum.subList(1, sum.size());
        switch (sum.get(0).kind) {
            case "NUM": return Integer.parseInt(sum.get(0).text);
            case "hour": return hour;
            case "weather": return weather;
            case "pile": return sum(pile);
            case "raft": return sum(raft);
            case "tired": return horses.get(horseNamed(rest.get(0).text)).tired;
            case "load": return horses.get(horseNamed(rest.get(0).text)).load();
            case "links": return horses.get(horseNamed(rest.get(0).text)).links;
            case "frost": return stretches.get(stretchNamed(rest.get(0).text)).frost;
            case "fallen": return stretches.get(stretchNamed(rest.get(0).text)).fallen.size();
            case "-": return (int) (0L - reckon(rest));
            case "(": return reckon(rest.subList(0, rest.size() - 1));
            default:
                int comma = lastBinary(rest.subList(1, rest.size() - 1), Set.of(",")) + 1;
                int left = reckon(rest.subList(1, comma));
                int right = reckon(rest.subList(comma + 1, rest.size() - 1));
                return (sum.get(0).kind.equals("min") == left < right) ? left : right;
        }
    }

    // ---- an hour

    private int need(Horse horse, Stretch stretch) {
        int need = horse.load() * (10 + stretch.slope) / 10 - stretch.frost;
        return need < 0 ? 0 : need;
    }

    private void anHour() {
        moved = new HashSet<>();
        for (Horse horse : horses) {
            if (horse.at == -1 && horse.links > 0 && !stretches.isEmpty()) {
                haul(horse);
            }
        }
        for (Horse horse : horses) {
            if (horse.at != -1 && !moved.contains(horse)) {
                move(horse);
            }
        }
        if (hour % 6 == 0) {
            for (Stretch stretch : stretches) {
                stretch.frost = between(stretch.frost + weather, 0, 9);
            }
        }
        hour++;
    }

    private void haul(Horse horse) {
        for (Order haul : hauls) {
            if (haul.horse == horse.number && (haul.test.isEmpty() || holds(haul.test))) {
                int most = reckon(haul.sum);
                for (Log log : new ArrayList<>(pile)) {
                    if (horse.sledge.size() < 5 && horse.load() + log.weight <= most) {
                        pile.remove(log);
                        horse.sledge.add(log);
                    }
                }
                if (!horse.sledge.isEmpty()) {
                    horse.at = 0;
                    horse.way = 1;
                    horse.gone = 0;
                    moved.add(horse);
                }
                return;
            }
        }
    }

    private void move(Horse horse) {
        Stretch stretch = stretches.get(horse.at);
        for (Order wait : waits) {
            if (wait.horse == horse.number && wait.at == horse.at && holds(wait.test)) {
                horse.tired = between(horse.tired - 2, 0, 60);
                return;
            }
        }
        int need = horse.way == 1 ? need(horse, stretch) : 0;
        if (need > horse.iron) {
            horse.links -= 1;
            broken += 1;
            stretch.fallen.addAll(horse.sledge);
            horse.sledge.clear();
            horse.way = -1;
            horse.gone = stretch.length - 1 - horse.gone;
            return;
        }
        if (need > horse.pull - horse.tired) {
            horse.tired = between(horse.tired - 4, 0, 60);
            return;
        }
        horse.tired = between(horse.tired + (horse.way == 1 ? need / 8 : -1), 0, 60);
        horse.gone += 1;
        if (horse.way == 1 && stretch.slope < 0 && stretch.frost > 5) {
            horse.gone += 1;
        }
        if (horse.gone >= stretch.length) {
            reachEnd(horse, stretch);
        }
    }

    private void reachEnd(Horse horse, Stretch stretch) {
        int to = horse.at + horse.way;
        horse.gone = 0;
        if (to == -1) {
            horse.at = -1;
            horse.way = 0;
        } else if (to == stretches.size()) {
            for (Log log : horse.sledge) {
                log.raftHour = hour;
            }
            horse.brought += horse.load();
            raft.addAll(horse.sledge);
            horse.sledge.clear();
            horse.way = -1;
        } else {
            Set<Horse> others = new HashSet<>();
            boolean otherBell = false;
            for (Horse other : horses) {
                if (other.at == to && other.way == -horse.way) {
                    others.add(other);
                    otherBell |= other.bell;
                }
            }
            if (others.isEmpty()) {
                horse.at = to;
            } else if (horse.bell && !otherBell) {
                horse.at = to;
                moved.addAll(others);
            } else {
                horse.gone = stretch.length - 1;
            }
        }
    }

    private static int between(int number, int least, int most) {
        return number < least ? least : number > most ? most : number;
    }

    // ---- the other calls

    private static void index(int index, int bound) {
        if (index < 0 || index >= bound) {
            throw new IndexOutOfBoundsException();
        }
    }

    private static void range(int number, int least, int most) {
        if (number < least || number > most) {
            throw new IllegalArgumentException();
        }
    }

    private int fallen() {
        int fallen = 0;
        for (Stretch stretch : stretches) {
            fallen += stretch.fallen.size();
        }
        return fallen;
    }

    int count(int what) {
        index(what, 13);
        int links = 0;
        int out = 0;
        for (Horse horse : horses) {
            links += horse.links;
            out += horse.at >= 0 ? 1 : 0;
        }
        return new int[] {hour, weather, stretches.size(), horses.size(), logs.size(), sum(pile), sum(raft),
            raft.size(), fallen(), out, links, broken, tape.size()}[what];
    }

    int stretch(int number, int what) {
        index(number, stretches.size());
        index(what, 5);
        Stretch stretch = stretches.get(number);
        int on = 0;
        for (Horse horse : horses) {
            on += horse.at == number ? 1 : 0;
        }
        return new int[] {stretch.length, stretch.slope, stretch.frost, on, stretch.fallen.size()}[what];
    }

    int horse(int number, int what) {
        index(number, horses.size());
        index(what, 10);
        Horse horse = horses.get(number);
        return new int[] {horse.pull, horse.links, horse.iron, horse.bell ? 1 : 0, horse.at,
            horse.way == 1 ? 1 : 0, horse.gone, horse.load(), horse.tired, horse.brought}[what];
    }

    int log(int number, int what) {
        index(number, logs.size());
        index(what, 4);
        Log log = logs.get(number);
        int state = pile.contains(log) ? 0 : raft.contains(log) ? 3 : -1;
        int where = -1;
        for (Horse horse : horses) {
            if (horse.sledge.contains(log)) {
                state = 1;
                where = horse.number;
            }
        }
        for (int s = 0; s < stretches.size(); s++) {
            if (stretches.get(s).fallen.contains(log)) {
                state = 2;
                where = s;
            }
        }
        return new int[] {log.weight, state, where, log.raftHour}[what];
    }

    int needs(int horse, int stretch) {
        index(horse, horses.size());
        index(stretch, stretches.size());
        return need(horses.get(horse), stretches.get(stretch));
    }

    int setWeather(int next) {
        range(next, -3, 3);
        int before = weather;
        weather = next;
        return before;
    }

    int forge(int horse, int links) {
        index(horse, horses.size());
        range(links, 1, 9);
        horses.get(horse).links = between(horses.get(horse).links + links, 0, 9);
        return horses.get(horse).links;
    }

    int clear(int stretch) {
        index(stretch, stretches.size());
        Set<Log> fallen = stretches.get(stretch).fallen;
        int found = fallen.size();
        pile.addAll(fallen);
        fallen.clear();
        return found;
    }

    int pass(int hours) {
        range(hours, 1, 120);
        int before = sum(raft);
        go(hours);
        return sum(raft) - before;
    }

    private Model go(int hours) {
        for (int i = 0; i < hours; i++) {
            anHour();
        }
        return this;
    }

    int arrives(int log) {
        index(log, logs.size());
        Model other = copy();
        for (int hours = 0; hours <= 200; hours++) {
            if (other.raft.contains(other.logs.get(log))) {
                return hours;
            }
            other.anHour();
        }
        return -1;
    }

    int breaks(int horse) {
        index(horse, horses.size());
        Model other = copy();
        for (int hours = 1; hours <= 200; hours++) {
            int before = other.horses.get(horse).links;
            other.anHour();
            if (other.horses.get(horse).links != before) {
                return hours;
            }
        }
        return -1;
    }

    int foresee(int hours, int what) {
        range(hours, 1, 120);
        index(what, 4);
        Model other = copy().go(hours);
        return new int[] {sum(other.raft) - sum(raft), other.fallen(), other.broken - broken, sum(other.pile)}[what];
    }

    int advise(int hours) {
        range(hours, 1, 80);
        TreeSet<Integer> best = new TreeSet<>();
        for (int w = -3; w <= 3; w++) {
            Model other = copy();
            other.weather = w;
            best.add(sum(other.go(hours).raft) * 10 - w);
        }
        return -(best.last() - Math.floorDiv(best.last() + 3, 10) * 10);
    }

    int choose(int hours) {
        range(hours, 1, 80);
        int most = sum(copy().go(hours).raft);
        int best = -1;
        for (int h = horses.size() - 1; h >= 0; h--) {
            Model other = copy();
            other.horses.get(h).iron += 10;
            int weight = sum(other.go(hours).raft);
            if (weight > most || weight == most && best >= 0) {
                most = weight;
                best = h;
            }
        }
        return best;
    }

    double mean() {
        return raft.isEmpty() ? 0 : sum(raft) * 1.0 / raft.size();
    }

    long digest() {
        List<Integer> all = new ArrayList<>();
        for (int what = 0; what < 13; what++) {
            all.add(count(what));
        }
        for (int i = 0; i < stretches.size() * 5; i++) {
            all.add(stretch(i / 5, i % 5));
        }
        for (int i = 0; i < horses.size() * 10; i++) {
            all.add(horse(i / 10, i % 10));
        }
        for (int i = 0; i < logs.size() * 4; i++) {
            all.add(log(i / 4, i % 4));
        }
        long d = 797;
        for (int x : all) {
            d = d * 31 + x;
        }
        return d;
    }

    private Model copy() {
        Model other = new Model();
        other.hour = hour;
        other.weather = weather;
        other.broken = broken;
        other.hauls = hauls;
        other.waits = waits;
        for (Log log : logs) {
            Log twin = new Log();
            twin.name = log.name;
            twin.number = log.number;
            twin.weight = log.weight;
            twin.raftHour = log.raftHour;
            other.logs.add(twin);
        }
        other.takeOver(pile, other.pile);
        other.takeOver(raft, other.raft);
        for (Stretch stretch : stretches) {
            Stretch twin = new Stretch();
            twin.name = stretch.name;
            twin.length = stretch.length;
            twin.slope = stretch.slope;
            twin.frost = stretch.frost;
            other.takeOver(stretch.fallen, twin.fallen);
            other.stretches.add(twin);
        }
        for (Horse horse : horses) {
            Horse twin = new Horse();
            twin.name = horse.name;
            twin.number = horse.number;
            twin.pull = horse.pull;
            twin.links = horse.links;
            twin.iron = horse.iron;
            twin.bell = horse.bell;
            twin.at = horse.at;
            twin.way = horse.way;
            twin.gone = horse.gone;
            twin.tired = horse.tired;
            twin.brought = horse.brought;
            other.takeOver(horse.sledge, twin.sledge);
            other.horses.add(twin);
        }
        return other;
    }

    private void takeOver(Set<Log> from, Set<Log> to) {
        for (Log log : from) {
            to.add(logs.get(log.number));
        }
    }
}
