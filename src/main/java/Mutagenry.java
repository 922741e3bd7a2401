import java.util.NoSuchElementException;

public final class Mutagenry {
    private static final int MOST_FUNCTIONS = 4;
    private static final int MOST_WORDS = 90;
    private static final int MOST_SPOTS = MOST_FUNCTIONS * MOST_WORDS;
    private static final int MOST_MUTANTS = 150;
    private static final int MOST_TESTS = 16;
    private static final int MOST_ORACLES = 8;
    private static final int MOST_CALLS = 12;
    private static final int MOST_ARGUMENTS = 4095;
    private static final int MOST_BOUNDED = 50;

    private static final int STATEMENT = 1;
    private static final int EXPRESSION = 2;

    private static final int OPERATORS = 8;
    private static final int NUMBER = 0;
    private static final int SUM = 1;
    private static final int RELATION = 2;
    private static final int LOGIC = 3;
    private static final int BARE = 4;
    private static final int VARIABLE = 5;
    private static final int NEGATED = 6;
    private static final int SKIPPED = 7;

    private static final int ALL_ZERO = 0x888;
    private static final int PASSED = 999;
    private static final int THROWN = 100;
    private static final int NEVER = 99;

    private final Words words;
    private final Mutants mutants;
    private final Table table;
    private final Likes likes;
    private final Sets sets;
    private final Search search;
    private final Oracles oracles;
    private final int[] countedAll;
    private final int[] countedKilled;
    private int changes;

    public Mutagenry() {
        words = new Words();
        mutants = new Mutants(words);
        table = new Table(words, mutants);
        likes = new Likes(words, mutants, table);
        sets = new Sets(words, mutants, table);
        search = new Search(words, mutants, table);
        oracles = new Oracles(mutants, table);
        countedAll = new int[OPERATORS];
        countedKilled = new int[OPERATORS];
    }

    public int type(int word) throws IllegalArgumentException, IllegalStateException {
        if (word < 0 || word > 107) {
            throw new IllegalArgumentException("no such word");
        }
        if (words.typed >= MOST_WORDS) {
            throw new IllegalStateException("the row is full");
        }
        return words.append(word);
    }

    public int erase() {
        return words.empty();
    }

    public int wrongAt(int parameters) throws IllegalArgumentException {
        checkParameters(parameters);
        return words.firstWrong(parameters, words.functions);
    }

    public int define(int parameters)
            throws IllegalArgumentException, UnsupportedOperationException, IllegalStateException {
        checkParameters(parameters);
        checkRow(parameters, words.functions);
        if (words.functions >= MOST_FUNCTIONS) {
            throw new IllegalStateException("there are 4 functions");
        }
        int function = words.functions;
        words.functions = function + 1;
        install(function, parameters);
        return function;
    }

    public int change(int function) throws IndexOutOfBoundsException, UnsupportedOperationException {
        checkFunction(function);
        int parameters = at(words.parameters, function);
        checkRow(parameters, function);
        table.fill();
        countHistory();
        install(function, parameters);
        changes++;
        return changes;
    }

    public int places() {
        return words.places;
    }

    public int wordOf(int place) throws IndexOutOfBoundsException {
        checkPlace(place);
        return words.wordAt(at(words.spots, place));
    }

    public int outcome(int function, int arguments) throws IndexOutOfBoundsException, IllegalArgumentException {
        checkFunction(function);
        checkArguments(arguments);
        return table.runPlain(function, arguments);
    }

    public int steps(int function, int arguments) throws IndexOutOfBoundsException, IllegalArgumentException {
        checkFunction(function);
        checkArguments(arguments);
        table.runPlain(function, arguments);
        return table.machine.steps;
    }

    public int setLimit(int limit) throws IllegalArgumentException {
        if (limit < 10 || limit > 400) {
            throw new IllegalArgumentException("no such limit");
        }
        int before = table.limit;
        if (before != limit) {
            table.limit = limit;
            forgetRuns();
        }
        return before;
    }

    public boolean setOperator(char operator, boolean is) throws IllegalArgumentException {
        int number = checkOperator(operator);
        boolean was = mutants.letOperator(number, is);
        if (was != is) {
            forgetMutants();
        }
        return was;
    }

    public boolean setFunction(int function, boolean is) throws IndexOutOfBoundsException {
        checkFunction(function);
        boolean was = mutants.letFunction(function, is);
        if (was != is) {
            forgetMutants();
        }
        return was;
    }

    public int mutants() {
        return mutants.size();
    }

    public int placeOf(int mutant) throws IndexOutOfBoundsException {
        checkMutant(mutant);
        return at(words.placeNumbers, mutants.spotOf(mutant));
    }

    public char operatorOf(int mutant) throws IndexOutOfBoundsException {
        checkMutant(mutant);
        return signOf(mutants.kindOf(mutant));
    }

    public int mutatedWord(int mutant) throws IndexOutOfBoundsException {
        checkMutant(mutant);
        return mutants.givenOf(mutant);
    }

    public int addTest(int function, int arguments)
            throws IndexOutOfBoundsException, IllegalArgumentException, IllegalStateException {
        checkFunction(function);
        checkArguments(arguments);
        if (table.tests >= MOST_TESTS) {
            throw new IllegalStateException("there are 16 tests");
        }
        return table.append(function, arguments);
    }

    public int expected(int test) throws IndexOutOfBoundsException {
        checkTest(test);
        table.settle();
        return at(table.outcomes, test);
    }

    public char told(int mutant, int test) throws IndexOutOfBoundsException {
        checkMutant(mutant);
        checkTest(test);
        table.fill();
        if ((table.killsOf(mutant) >> test & 1) != 0) {
            return 'k';
        }
        if (!table.isReached(mutant, test)) {
            return '-';
        }
        return table.isInfected(mutant, test) ? 'i' : 'r';
    }

    public int alone(int mutant, int test) throws IndexOutOfBoundsException {
        checkMutant(mutant);
        checkTest(test);
        table.settle();
        return table.runMutant(mutant, test);
    }

    public int kills(int mutant) throws IndexOutOfBoundsException {
        checkMutant(mutant);
        table.fill();
        return table.killsOf(mutant);
    }

    public long runs() {
        return table.countRuns();
    }

    public char isLike(int mutant) throws IndexOutOfBoundsException {
        checkMutant(mutant);
        if (likes.isOneForm(mutant)) {
            return 'n';
        }
        return likes.isByAllInputs(mutant) ? 'b' : '-';
    }

    public boolean isSubsumed(int mutant, int by) throws IndexOutOfBoundsException {
        checkMutant(mutant);
        checkMutant(by);
        table.fill();
        return isSome(table.killsOf(by), table.killsOf(mutant));
    }

    public int minimals() {
        table.fill();
        return sets.gatherLeast();
    }

    public int minimalAt(int index) throws NoSuchElementException {
        table.fill();
        if (index < 0 || index >= sets.gatherLeast()) {
            throw new NoSuchElementException("no such mutant");
        }
        return at(sets.lowest, index);
    }

    public float score(int tests, boolean isMinimal) throws IllegalArgumentException, ArithmeticException {
        if (tests < 0 || tests >= 1 << table.tests) {
            throw new IllegalArgumentException("no such tests");
        }
        table.fill();
        int all = isMinimal ? sets.gatherLeast() : likes.countUnlike();
        if (all == 0) {
            throw new ArithmeticException("divided by 0");
        }
        int had = isMinimal ? sets.countHit(tests) : likes.countKilled(tests);
        return (float) had / (float) all;
    }

    public int orderAt(int index) throws NoSuchElementException {
        if (index < 0 || index >= table.tests) {
            throw new NoSuchElementException("no such test");
        }
        table.fill();
        return sets.ordered(index);
    }

    public int leastSet(boolean isKills) {
        if (isKills) {
            table.fill();
            sets.gatherLeast();
        } else {
            table.settle();
            sets.gatherPlaces();
        }
        return sets.fewest();
    }

    public int covers(int test) throws IndexOutOfBoundsException {
        checkTest(test);
        table.settle();
        int found = 0;
        for (int place = 0; place < words.places; place++) {
            found += table.coverOf(at(words.spots, place)) >> test & 1;
        }
        return found;
    }

    public int ways() {
        table.settle();
        return table.sight.countWays();
    }

    public int pairKills(int first, int second) throws IndexOutOfBoundsException, UnsupportedOperationException {
        checkPair(first, second);
        table.fill();
        return table.killsOfPair(first, second);
    }

    public int masked(int first, int second) throws IndexOutOfBoundsException, UnsupportedOperationException {
        checkPair(first, second);
        table.fill();
        int both = table.killsOfPair(first, second);
        return (table.killsOf(first) | table.killsOf(second)) & ~both;
    }

    public boolean isHarder(int first, int second) throws IndexOutOfBoundsException, UnsupportedOperationException {
        checkPair(first, second);
        table.fill();
        int both = table.killsOfPair(first, second);
        int missing = both & ~(table.killsOf(first) & table.killsOf(second));
        return both != 0 && missing == 0;
    }

    public int killing(int mutant, int function) throws IndexOutOfBoundsException, NoSuchElementException {
        checkMutant(mutant);
        checkFunction(function);
        int arguments = search.firstKilling(mutant, function);
        if (arguments < 0) {
            throw new NoSuchElementException("no arguments kill it");
        }
        return arguments;
    }

    public int far(int function, int arguments, int place, boolean isSo)
            throws IndexOutOfBoundsException, IllegalArgumentException, UnsupportedOperationException {
        checkFunction(function);
        checkPlace(place);
        checkArguments(arguments);
        checkExpression(place);
        return search.distance(function, arguments, at(words.spots, place), isSo);
    }

    public int climb(int function, int place, boolean isSo)
            throws IndexOutOfBoundsException, UnsupportedOperationException, NoSuchElementException {
        checkFunction(function);
        checkPlace(place);
        checkExpression(place);
        int arguments = search.climbed(function, at(words.spots, place), isSo);
        if (arguments < 0) {
            throw new NoSuchElementException("the distance is not 0");
        }
        return arguments;
    }

    public int after(int test, int before) throws IndexOutOfBoundsException {
        checkTest(test);
        checkTest(before);
        return table.runBehind(test, before);
    }

    public boolean leans(int test) throws IndexOutOfBoundsException {
        checkTest(test);
        table.settle();
        for (int before = 0; before < table.tests; before++) {
            if (before != test && table.runBehind(test, before) != at(table.outcomes, test)) {
                return true;
            }
        }
        return false;
    }

    public float prediction(char operator) throws IllegalArgumentException {
        int number = checkOperator(operator);
        return (float) (at(countedKilled, number) + 1) / (float) (at(countedAll, number) + 2);
    }

    public int counted(char operator, boolean areKilled) throws IllegalArgumentException {
        int number = checkOperator(operator);
        return at(areKilled ? countedKilled : countedAll, number);
    }

    public int addOracle(char kind, int function, int peer) throws IllegalArgumentException,
            IndexOutOfBoundsException, UnsupportedOperationException, IllegalStateException {
        if (kind != 'p' && kind != 'z' && kind != 'c' && kind != 'd') {
            throw new IllegalArgumentException("no such kind");
        }
        checkFunction(function);
        if (kind == 'd') {
            checkFunction(peer);
        }
        int parameters = at(words.parameters, function);
        boolean isUnfit = kind == 'c' && parameters < 2;
        if (isUnfit || kind == 'd' && parameters != at(words.parameters, peer)) {
            throw new UnsupportedOperationException("the parameters do not fit");
        }
        if (oracles.size >= MOST_ORACLES) {
            throw new IllegalStateException("there are 8 oracles");
        }
        return oracles.append(kind, function, peer);
    }

    public int holds(int oracle) throws IndexOutOfBoundsException {
        checkOracle(oracle);
        return oracles.countHolding(oracle);
    }

    public int oracleKills(int oracle, int mutant) throws IndexOutOfBoundsException {
        checkOracle(oracle);
        checkMutant(mutant);
        return oracles.killsBy(oracle, mutant);
    }

    public int sample(int seed, int many) throws IllegalArgumentException {
        checkSample(many);
        table.fill();
        return sets.countDrawn(seed, many);
    }

    public int bound(int seed, int many) throws IllegalArgumentException, UnsupportedOperationException {
        checkSample(many);
        if (mutants.size() > MOST_BOUNDED) {
            throw new UnsupportedOperationException("there are more than 50 mutants");
        }
        table.fill();
        return leastKilled(mutants.size(), many, sets.countDrawn(seed, many));
    }

    public int functions() {
        return words.functions;
    }

    public int tests() {
        return table.tests;
    }

    public int changes() {
        return changes;
    }

    public double meanKills() throws ArithmeticException {
        int many = mutants.size();
        if (many == 0) {
            throw new ArithmeticException("there are no mutants");
        }
        table.fill();
        int sum = 0;
        for (int mutant = 0; mutant < many; mutant++) {
            sum += Integer.bitCount(table.killsOf(mutant));
        }
        return (double) sum / (double) many;
    }

    public boolean isSound() {
        table.fill();
        int many = mutants.size();
        for (int mutant = 0; mutant < many; mutant++) {
            if (!isTrueToRuns(mutant) || table.killsOf(mutant) != 0 && likes.isOneForm(mutant)) {
                return false;
            }
        }
        sets.gatherLeast();
        boolean isSet = sets.countHit(sets.fewest()) == sets.many;
        sets.gatherPlaces();
        return isSet && sets.countHit(sets.fewest()) == sets.many;
    }

    // A mutant that a test kills has another outcome there, so it can not be like by all inputs.
    private boolean isTrueToRuns(int mutant) {
        int kills = table.killsOf(mutant);
        for (int test = 0; test < table.tests; test++) {
            boolean isKilled = (kills >> test & 1) != 0;
            if (isKilled != (table.runMutant(mutant, test) != at(table.outcomes, test))) {
                return false;
            }
            if (isKilled && !table.isInfected(mutant, test)) {
                return false;
            }
        }
        return true;
    }

    private void install(int function, int parameters) {
        words.install(function, parameters);
        forgetRuns();
        forgetMutants();
    }

    private void forgetRuns() {
        table.forgetRuns();
        likes.forget();
    }

    private void forgetMutants() {
        mutants.forget();
        table.forgetKills();
        likes.forget();
    }

    private void countHistory() {
        int many = mutants.size();
        for (int mutant = 0; mutant < many; mutant++) {
            int kind = mutants.kindOf(mutant);
            put(countedAll, kind, at(countedAll, kind) + 1);
            if (table.killsOf(mutant) != 0) {
                put(countedKilled, kind, at(countedKilled, kind) + 1);
            }
        }
    }

    private void checkParameters(int parameters) {
        if (parameters < 0 || parameters > 3) {
            throw new IllegalArgumentException("no such number of parameters");
        }
    }

    private void checkRow(int parameters, int own) {
        if (words.firstWrong(parameters, own) >= 0) {
            throw new UnsupportedOperationException("the row is wrong");
        }
    }

    private void checkFunction(int function) {
        if (function < 0 || function >= words.functions) {
            throw new IndexOutOfBoundsException("no such function");
        }
    }

    private void checkPlace(int place) {
        if (place < 0 || place >= words.places) {
            throw new IndexOutOfBoundsException("no such place");
        }
    }

    private void checkExpression(int place) {
        if (at(words.kinds, at(words.spots, place)) != EXPRESSION) {
            throw new UnsupportedOperationException("a statement is there");
        }
    }

    private void checkArguments(int arguments) {
        if (arguments < 0 || arguments > MOST_ARGUMENTS) {
            throw new IllegalArgumentException("no such arguments");
        }
    }

    private void checkMutant(int mutant) {
        if (mutant < 0 || mutant >= mutants.size()) {
            throw new IndexOutOfBoundsException("no such mutant");
        }
    }

    private void checkTest(int test) {
        if (test < 0 || test >= table.tests) {
            throw new IndexOutOfBoundsException("no such test");
        }
    }

    private void checkOracle(int oracle) {
        if (oracle < 0 || oracle >= oracles.size) {
            throw new IndexOutOfBoundsException("no such oracle");
        }
    }

    private void checkSample(int many) {
        if (many < 1 || many > mutants.size()) {
            throw new IllegalArgumentException("no such sample");
        }
    }

    private void checkPair(int first, int second) {
        checkMutant(first);
        checkMutant(second);
        int one = mutants.spotOf(first);
        int other = mutants.spotOf(second);
        if (words.isWithin(one, other) || words.isWithin(other, one)) {
            throw new UnsupportedOperationException("they are no pair");
        }
    }

    private int checkOperator(char operator) {
        for (int kind = 0; kind < OPERATORS; kind++) {
            if (signOf(kind) == operator) {
                return kind;
            }
        }
        throw new IllegalArgumentException("no such operator");
    }

    private static char signOf(int kind) {
        switch (kind) {
            case NUMBER: return 'c';
            case SUM: return 'a';
            case RELATION: return 'r';
            case LOGIC: return 'l';
            case BARE: return 'u';
            case VARIABLE: return 'v';
            case NEGATED: return 'n';
            default: return 's';
        }
    }

    private static int at(int[] row, int index) {
        return index >= 0 && index < row.length ? row[index] : 0;
    }

    private static void put(int[] row, int index, int value) {
        if (index >= 0 && index < row.length) {
            row[index] = value;
        }
    }

    private static int round(int value) {
        return (value + 8 & 15) - 8;
    }

    /** The result of 10 to 21; the caller sees to it that no divisor is 0. */
    private static int result(int word, int first, int second) {
        switch (word) {
            case 10: return round(first + second);
            case 11: return round(first - second);
            case 12: return round(first * second);
            case 13: return second == 0 ? 0 : round(first / second);
            case 14: return first < second ? 1 : 0;
            case 15: return first <= second ? 1 : 0;
            case 16: return first == second ? 1 : 0;
            case 17: return first != second ? 1 : 0;
            case 18: return first != 0 && second != 0 ? 1 : 0;
            case 19: return first != 0 || second != 0 ? 1 : 0;
            case 20: return round(-first);
            default: return first == 0 ? 1 : 0;
        }
    }

    private static boolean isSome(int part, int whole) {
        return part != 0 && part != whole && (part & ~whole) == 0;
    }

    private static long choose(int all, int taken) {
        if (taken < 0 || taken > all) {
            return 0;
        }
        long ways = 1;
        for (int i = 1; i <= taken; i++) {
            ways = ways * (all - taken + i) / i;
        }
        return ways;
    }

    private static int leastKilled(int all, int drawn, int found) {
        long samples = choose(all, drawn);
        for (int killed = 0; killed < all; killed++) {
            long fitting = 0;
            for (int i = found; i <= drawn; i++) {
                fitting += choose(killed, i) * choose(all - killed, drawn - i);
            }
            if (20 * fitting >= samples) {
                return killed;
            }
        }
        return all;
    }

    /** The row, the functions, and their places. A spot is 90 times the function plus the index of a word. */
    private static final class Words {
        private static final int NAME = 3;
        private static final int HIDDEN = 4;
        private static final int LIST = 5;

        private final int[] row = new int[MOST_WORDS];
        private final int[] needs = new int[4 * MOST_WORDS];
        private final int[] levels = new int[MOST_WORDS];
        private final int[] heights = new int[MOST_WORDS];
        private final int[] marks = new int[MOST_WORDS];
        private final int[] words = new int[MOST_SPOTS];
        private final int[] kinds = new int[MOST_SPOTS];
        private final int[] ends = new int[MOST_SPOTS];
        private final int[] placeNumbers = new int[MOST_SPOTS];
        private final int[] spots = new int[MOST_SPOTS];
        private final int[] lengths = new int[MOST_FUNCTIONS];
        private final int[] parameters = new int[MOST_FUNCTIONS];
        private int typed;
        private int functions;
        private int places;

        private int append(int word) {
            put(row, typed, word);
            typed++;
            return typed;
        }

        private int empty() {
            int before = typed;
            typed = 0;
            return before;
        }

        private int firstWrong(int given, int own) {
            put(needs, 0, STATEMENT);
            int height = 1;
            for (int i = 0; i < typed; i++) {
                if (height == 0) {
                    return i;
                }
                height--;
                int need = at(needs, height);
                int word = at(row, i);
                // A list is still needed behind each statement of it, until the word that ends it.
                if (need == LIST && word != 46) {
                    height++;
                    need = STATEMENT;
                }
                put(levels, i, height);
                put(marks, i, need <= EXPRESSION ? need : 0);
                height = need == EXPRESSION ? fitExpression(word, height, given, own) : fit(need, word, height);
                if (height < 0) {
                    return i;
                }
                put(heights, i, height);
            }
            return height == 0 ? -1 : typed;
        }

        private int fit(int need, int word, int height) {
            switch (need) {
                case NAME: return word <= 7 ? height : -1;
                case HIDDEN: return word <= 3 ? height : -1;
                case LIST: return height;
                default: return fitStatement(word, height);
            }
        }

        private int fitStatement(int word, int height) {
            switch (word) {
                case 40: return ask(height, NAME, EXPRESSION, 0);
                case 41: return ask(height, EXPRESSION, EXPRESSION, 0);
                case 42: return ask(height, EXPRESSION, STATEMENT, 0);
                case 43: return ask(height, EXPRESSION, STATEMENT, STATEMENT);
                case 44: return ask(height, EXPRESSION, STATEMENT, 0);
                case 45: return ask(height, LIST, 0, 0);
                case 47: return ask(height, EXPRESSION, 0, 0);
                case 48: return ask(height, EXPRESSION, 0, 0);
                case 49: return ask(height, STATEMENT, NAME, STATEMENT);
                case 51: return ask(height, HIDDEN, EXPRESSION, 0);
                default: return -1;
            }
        }

        private int fitExpression(int word, int height, int given, int own) {
            if (word <= 7 || word >= 92) {
                return height;
            }
            if (word == 24) {
                return ask(height, HIDDEN, 0, 0);
            }
            int parts = partsOf(word);
            if (word >= 30 && word < 30 + MOST_FUNCTIONS) {
                int function = word - 30;
                if (function != own && function >= functions) {
                    return -1;
                }
                parts = function == own ? given : at(parameters, function);
            } else if (parts == 0) {
                return -1;
            }
            int first = parts > 0 ? EXPRESSION : 0;
            int second = parts > 1 ? EXPRESSION : 0;
            return ask(height, first, second, parts > 2 ? EXPRESSION : 0);
        }

        private int ask(int height, int first, int second, int third) {
            int top = height;
            if (third != 0) {
                put(needs, top, third);
                top++;
            }
            if (second != 0) {
                put(needs, top, second);
                top++;
            }
            if (first != 0) {
                put(needs, top, first);
                top++;
            }
            return top;
        }

        /** How many expressions an expression is of. */
        private int partsOf(int word) {
            if (word >= 10 && word <= 19) {
                return 2;
            }
            if (word >= 20 && word <= 22) {
                return 1;
            }
            return word >= 30 && word < 30 + functions ? at(parameters, word - 30) : 0;
        }

        /** Takes over the row, that was found right just before. */
        private void install(int function, int given) {
            int from = function * MOST_WORDS;
            put(parameters, function, given);
            put(lengths, function, typed);
            for (int i = 0; i < typed; i++) {
                put(words, from + i, at(row, i));
                put(kinds, from + i, at(marks, i));
                put(ends, from + i, from + endOf(i));
            }
            typed = 0;
            numberPlaces();
        }

        private int endOf(int index) {
            int last = index;
            while (last < typed && at(heights, last) > at(levels, index)) {
                last++;
            }
            return last + 1;
        }

        private void numberPlaces() {
            places = 0;
            for (int function = 0; function < functions; function++) {
                int from = function * MOST_WORDS;
                for (int spot = from; spot < from + at(lengths, function); spot++) {
                    if (at(kinds, spot) != 0) {
                        put(placeNumbers, spot, places);
                        put(spots, places, spot);
                        places++;
                    }
                }
            }
        }

        private int wordAt(int spot) {
            return spot >= 0 && spot < words.length ? words[spot] : 0;
        }

        private int endAt(int spot) {
            return spot >= 0 && spot < ends.length ? ends[spot] : 0;
        }

        private boolean isWithin(int inner, int outer) {
            return inner >= outer && inner < endAt(outer);
        }

        private boolean isExpression(int spot) {
            return at(kinds, spot) == EXPRESSION;
        }

        /** The variables that occur in a function, as bits. */
        private int occurring(int function) {
            int from = function * MOST_WORDS;
            int found = (1 << at(parameters, function)) - 1;
            for (int spot = from; spot < from + at(lengths, function); spot++) {
                int word = wordAt(spot);
                int kind = at(kinds, spot);
                if (kind == EXPRESSION && word <= 7) {
                    found |= 1 << word;
                } else if (kind == STATEMENT && (word == 40 || word == 49)) {
                    found |= 1 << wordAt(word == 40 ? spot + 1 : endAt(spot + 1));
                }
            }
            return found;
        }

        /** Whether all inputs are few enough, and alone, to tell what the functions do. */
        private boolean isPlain() {
            for (int function = 0; function < functions; function++) {
                if (at(parameters, function) > 2) {
                    return false;
                }
            }
            for (int place = 0; place < places; place++) {
                int spot = at(spots, place);
                if (isExpression(spot) && wordAt(spot) == 24) {
                    return false;
                }
            }
            return true;
        }

        /** How many arguments there are that a function tells apart. */
        private int inputs(int function) {
            return 1 << 4 * at(parameters, function);
        }

        /** The arguments of a rising index, those beyond the parameters being 0. */
        private int inputAt(int function, int index) {
            int beyond = 4 * (3 - at(parameters, function));
            return index << beyond | ALL_ZERO & (1 << beyond) - 1;
        }
    }

    /** The list of mutants, of the operators and functions that are told. */
    private static final class Mutants {
        private final Words words;
        private final int[] spots = new int[MOST_MUTANTS];
        private final int[] kinds = new int[MOST_MUTANTS];
        private final int[] given = new int[MOST_MUTANTS];
        private int operatorsLet = (1 << OPERATORS) - 1;
        private int functionsLet = (1 << MOST_FUNCTIONS) - 1;
        private int many;
        private boolean isListed;

        private Mutants(Words itsWords) {
            words = itsWords;
        }

        private boolean letOperator(int kind, boolean is) {
            boolean was = (operatorsLet >> kind & 1) != 0;
            operatorsLet = is ? operatorsLet | 1 << kind : operatorsLet & ~(1 << kind);
            return was;
        }

        private boolean letFunction(int function, boolean is) {
            boolean was = (functionsLet >> function & 1) != 0;
            functionsLet = is ? functionsLet | 1 << function : functionsLet & ~(1 << function);
            return was;
        }

        private void forget() {
            isListed = false;
        }

        private int size() {
            if (!isListed) {
                isListed = true;
                many = 0;
                for (int place = 0; place < words.places; place++) {
                    listAt(at(words.spots, place));
                }
            }
            return many;
        }

        private int spotOf(int mutant) {
            return at(spots, mutant);
        }

        private int kindOf(int mutant) {
            return at(kinds, mutant);
        }

        private int givenOf(int mutant) {
            return at(given, mutant);
        }

        private void listAt(int spot) {
            int word = words.wordAt(spot);
            int kind = words.isExpression(spot) ? kindOfExpression(word) : kindOfStatement(word);
            boolean isLet = (functionsLet >> spot / MOST_WORDS & 1) != 0;
            if (kind < 0 || !isLet || (operatorsLet >> kind & 1) == 0) {
                return;
            }
            switch (kind) {
                case NUMBER: listNumbers(spot, word); break;
                case SUM: listOthers(spot, kind, 10, 13); break;
                case RELATION: listOthers(spot, kind, 14, 17); break;
                case LOGIC: listOthers(spot, kind, 18, 19); break;
                case BARE: add(spot, kind, words.wordAt(spot + 1)); break;
                case VARIABLE: listVariables(spot); break;
                default: add(spot, kind, word); break;
            }
        }

        private int kindOfExpression(int word) {
            if (word >= 92) {
                return NUMBER;
            }
            if (word <= 7) {
                return VARIABLE;
            }
            if (word <= 13) {
                return SUM;
            }
            if (word <= 17) {
                return RELATION;
            }
            if (word <= 19) {
                return LOGIC;
            }
            return word <= 21 ? BARE : -1;
        }

        private int kindOfStatement(int word) {
            if (word >= 42 && word <= 44) {
                return NEGATED;
            }
            return word == 45 || word == 49 ? -1 : SKIPPED;
        }

        private void listNumbers(int spot, int word) {
            int number = word - 100;
            add(spot, NUMBER, 100 + round(number + 1));
            add(spot, NUMBER, 100 + round(number - 1));
            if (number != 0 && number != 1 && number != -1) {
                add(spot, NUMBER, 100);
            }
        }

        private void listOthers(int spot, int kind, int from, int to) {
            for (int word = from; word <= to; word++) {
                if (word != words.wordAt(spot)) {
                    add(spot, kind, word);
                }
            }
        }

        private void listVariables(int spot) {
            int found = words.occurring(spot / MOST_WORDS);
            for (int word = 0; word <= 7; word++) {
                if (word != words.wordAt(spot) && (found >> word & 1) != 0) {
                    add(spot, VARIABLE, word);
                }
            }
        }

        private void add(int spot, int kind, int word) {
            if (many < MOST_MUTANTS) {
                put(spots, many, spot);
                put(kinds, many, kind);
                put(given, many, word);
                many++;
            }
        }
    }

    /** The mutants that are in effect in a run: none, one, or two. */
    private static final class Spoil {
        private static final int NONE = -1;

        private int firstSpot = NONE;
        private int firstKind;
        private int firstWord;
        private int secondSpot = NONE;
        private int secondKind;
        private int secondWord;
        private boolean isOff;

        private void clear() {
            firstSpot = NONE;
            secondSpot = NONE;
        }

        private void take(Mutants mutants, int mutant) {
            firstSpot = mutants.spotOf(mutant);
            firstKind = mutants.kindOf(mutant);
            firstWord = mutants.givenOf(mutant);
            secondSpot = NONE;
        }

        private void takeSecond(Mutants mutants, int mutant) {
            secondSpot = mutants.spotOf(mutant);
            secondKind = mutants.kindOf(mutant);
            secondWord = mutants.givenOf(mutant);
        }

        private boolean isSo(int spot, int kind) {
            if (isOff) {
                return false;
            }
            return spot == firstSpot && kind == firstKind || spot == secondSpot && kind == secondKind;
        }

        private int wordAt(int spot, int word) {
            if (isOff) {
                return word;
            }
            if (spot == firstSpot) {
                return firstWord;
            }
            return spot == secondSpot ? secondWord : word;
        }
    }

    /** What a run is looked at for: places and ways in tests, one place, or a distance. */
    private static final class Sight {
        private static final int NONE = -1;

        private final int[] cover = new int[MOST_SPOTS];
        private final int[] so = new int[MOST_SPOTS];
        private final int[] notSo = new int[MOST_SPOTS];
        private int bit;
        private int watched = NONE;
        private boolean isCome;
        private int sought = NONE;
        private boolean isSo;
        private int distance;

        private void stop() {
            bit = 0;
            watched = NONE;
            sought = NONE;
        }

        private void watch(int spot) {
            watched = spot;
            isCome = false;
        }

        private void seek(int spot, boolean toBeSo) {
            sought = spot;
            isSo = toBeSo;
            distance = NEVER;
        }

        private void see(int spot) {
            if (bit != 0) {
                put(cover, spot, at(cover, spot) | bit);
            }
            if (spot == watched) {
                isCome = true;
            }
        }

        private void seeWay(int spot, boolean is) {
            int[] ways = is ? so : notSo;
            if (spot >= 0 && spot < ways.length) {
                ways[spot] |= bit;
            }
        }

        private int countWays() {
            int found = 0;
            for (int spot = 0; spot < MOST_SPOTS; spot++) {
                found += at(so, spot) != 0 ? 1 : 0;
                found += at(notSo, spot) != 0 ? 1 : 0;
            }
            return found;
        }

        private void forget() {
            for (int spot = 0; spot < MOST_SPOTS; spot++) {
                put(cover, spot, 0);
                put(so, spot, 0);
                put(notSo, spot, 0);
            }
        }

        /** The distance of 16 not so, and of 17 so, is that of what they give, as of other words. */
        private void measure(int word, int difference, int value) {
            int found = value < 0 ? -value : value;
            if (word == 14) {
                found = isSo ? difference + 1 : -difference;
            } else if (word == 15) {
                found = isSo ? difference : 1 - difference;
            } else if (word == (isSo ? 16 : 17)) {
                found = difference < 0 ? -difference : difference;
            } else if (isSo) {
                found = value == 0 ? 1 : 0;
            }
            if (found < 0) {
                found = 0;
            }
            if (found < distance) {
                distance = found;
            }
        }
    }

    /** What is kept while it is found aside what the program would give at a mutant's place. */
    private static final class Aside {
        private static final int NONE = -1;

        private final int[] hidden = new int[4];
        private int followed = NONE;
        private boolean isOn;
        private boolean isInfected;
        private int steps;
        private int limit;
        private int depth;
        private int height;

        private void follow(int spot) {
            followed = spot;
            isOn = false;
            isInfected = false;
        }

        private boolean isDue(int spot) {
            return spot == followed && !isOn;
        }
    }

    /** Runs functions. What is to be done lies on a stack, as a spot and a phase, so that no call nests. */
    private static final class Machine {
        private static final int FIND = 0;
        private static final int FRESH = 1;
        private static final int BEGIN = 2;
        private static final int APPLY = 3;
        private static final int GOT = 4;
        private static final int ASK = 5;
        private static final int LOOP = 6;
        private static final int LIST = 7;
        private static final int CATCH = 8;
        private static final int CALL = 9;
        private static final int COMPARE = 10;
        private static final int ASIDE = 11;

        private static final int GOING = 0;
        private static final int THROWING = 1;
        private static final int RETURNING = 2;
        private static final int ENDED = 3;
        private static final int OVER = 4;

        private static final int MOST_TURNS = 100000000;
        private static final int ASIDE_LIMIT = 100;
        private static final int NOTHING = 32;
        private static final int ROOM = 2048;

        private final Words words;
        private final Spoil spoil;
        private final Sight sight;
        private final Aside aside;
        private final int[] control = new int[ROOM];
        private final int[] values = new int[ROOM];
        private final int[] variables = new int[8 * (MOST_CALLS + 1)];
        private final int[] cells = new int[4 * (MOST_CALLS + 1)];
        private final int[] bases = new int[MOST_CALLS + 1];
        private final int[] hidden = new int[4];
        private int top;
        private int height;
        private int depth;
        private int steps;
        private int limit;
        private int state;
        private int given;

        private Machine(Words itsWords, Spoil itsSpoil, Sight itsSight, Aside itsAside) {
            words = itsWords;
            spoil = itsSpoil;
            sight = itsSight;
            aside = itsAside;
        }

        private int run(int function, int arguments, int itsLimit, boolean isFresh) {
            for (int i = 0; i < 4 && isFresh; i++) {
                put(hidden, i, 0);
            }
            top = 0;
            height = 0;
            depth = -1;
            steps = 0;
            limit = itsLimit;
            state = GOING;
            given = PASSED;
            int parameters = at(words.parameters, function);
            for (int i = 0; i < parameters; i++) {
                pushValue((arguments >> 8 - 4 * i & 15) - 8);
            }
            enter(function, 0);
            for (int turn = 0; turn < MOST_TURNS && state != OVER; turn++) {
                if (state == GOING) {
                    goOn();
                } else if (state == THROWING) {
                    passThrown();
                } else {
                    passOn();
                }
            }
            return given;
        }

        private void goOn() {
            int entry = pop();
            int spot = entry >> 4 & 511;
            switch (entry & 15) {
                case FIND: find(spot, true); break;
                case FRESH: find(spot, false); break;
                case BEGIN: begin(spot); break;
                case APPLY: apply(spot); break;
                case GOT: got(spot); break;
                case ASK: ask(spot); break;
                case LOOP: askAgain(spot); break;
                case LIST: goThrough(spot); break;
                case CALL: leave(spot, 0); break;
                case COMPARE: compare(entry >> 13, at(values, height - 1) + 8); break;
                case ASIDE: endAside(spot, popValue() + 8); break;
                default: break;
            }
        }

        /** Takes one entry away for what is thrown. */
        private void passThrown() {
            int entry = pop();
            int spot = entry >> 4 & 511;
            switch (entry & 15) {
                case CATCH: catchThrown(spot); break;
                case CALL: leaveThrown(); break;
                case COMPARE: compare(entry >> 13, 16 + given + 8); break;
                case ASIDE: endAside(spot, 16 + given + 8); break;
                default: break;
            }
        }

        /** Takes one entry away for what is returned, or for the limit that is passed. */
        private void passOn() {
            if (state == ENDED && !aside.isOn) {
                given = PASSED;
                state = OVER;
                return;
            }
            int entry = pop();
            int spot = entry >> 4 & 511;
            int phase = entry & 15;
            if (state == RETURNING && phase == CALL) {
                leave(spot, given);
            } else if (state == ENDED && phase == ASIDE) {
                endAside(spot, NOTHING);
            }
        }

        private void catchThrown(int spot) {
            int name = words.endAt(spot + 1);
            height = at(bases, depth);
            put(variables, 8 * depth + words.wordAt(name), given);
            state = GOING;
            push(BEGIN, name + 1);
        }

        private void begin(int spot) {
            sight.see(spot);
            if (spoil.isSo(spot, SKIPPED) || !isStepLeft()) {
                return;
            }
            switch (words.wordAt(spot)) {
                case 40:
                case 51:
                    push(GOT, spot);
                    push(FIND, spot + 2);
                    break;
                case 41:
                    push(GOT, spot);
                    push(FIND, words.endAt(spot + 1));
                    push(FIND, spot + 1);
                    break;
                case 42:
                case 43:
                    push(ASK, spot);
                    push(FIND, spot + 1);
                    break;
                case 44: push(LOOP, spot); break;
                case 45: push(LIST, spot + 1); break;
                case 49:
                    push(CATCH, spot);
                    push(BEGIN, spot + 1);
                    break;
                default:
                    push(GOT, spot);
                    push(FIND, spot + 1);
                    break;
            }
        }

        private boolean isStepLeft() {
            steps++;
            if (steps > limit) {
                state = ENDED;
            }
            return steps <= limit;
        }

        private void askAgain(int spot) {
            if (isStepLeft()) {
                push(ASK, spot);
                push(FIND, spot + 1);
            }
        }

        private void goThrough(int spot) {
            if (words.wordAt(spot) != 46) {
                push(LIST, words.endAt(spot));
                push(BEGIN, spot);
            }
        }

        private void ask(int spot) {
            boolean is = popValue() != 0;
            if (spoil.isSo(spot, NEGATED)) {
                is = !is;
            }
            sight.seeWay(spot, is);
            int word = words.wordAt(spot);
            int statement = words.endAt(spot + 1);
            if (is) {
                if (word == 44) {
                    push(LOOP, spot);
                }
                push(BEGIN, statement);
            } else if (word == 43) {
                push(BEGIN, words.endAt(statement));
            }
        }

        private void got(int spot) {
            int value = popValue();
            switch (words.wordAt(spot)) {
                case 40: put(variables, 8 * depth + words.wordAt(spot + 1), value); break;
                case 41: setCell(popValue(), value); break;
                case 47:
                    given = value;
                    state = RETURNING;
                    break;
                case 48: raise(value); break;
                default: put(hidden, words.wordAt(spot + 1), value); break;
            }
        }

        private void setCell(int cell, int value) {
            if (cell < 0 || cell > 3) {
                raise(2);
            } else {
                put(cells, 4 * depth + cell, value);
            }
        }

        private void find(int spot, boolean isFirst) {
            sight.see(spot);
            if (isFirst && aside.isDue(spot)) {
                beginAside(spot);
                return;
            }
            int word = spoil.wordAt(spot, words.wordAt(spot));
            if (spoil.isSo(spot, BARE)) {
                push(FIND, spot + 1);
            } else if (word <= 7) {
                give(spot, at(variables, 8 * depth + word));
            } else if (word >= 92) {
                give(spot, word - 100);
            } else if (word == 24) {
                give(spot, at(hidden, words.wordAt(spot + 1)));
            } else {
                findParts(spot, words.partsOf(word));
            }
        }

        private void findParts(int spot, int parts) {
            int second = words.endAt(spot + 1);
            push(APPLY, spot);
            if (parts > 2) {
                push(FIND, words.endAt(second));
            }
            if (parts > 1) {
                push(FIND, second);
            }
            if (parts > 0) {
                push(FIND, spot + 1);
            }
        }

        private void apply(int spot) {
            int word = spoil.wordAt(spot, words.wordAt(spot));
            if (word >= 30) {
                if (depth + 1 >= MOST_CALLS) {
                    raise(3);
                } else {
                    enter(word - 30, spot);
                }
                return;
            }
            int second = word < 20 ? popValue() : 0;
            int first = popValue();
            if (word == 22) {
                if (first < 0 || first > 3) {
                    raise(2);
                } else {
                    give(spot, at(cells, 4 * depth + first));
                }
            } else if (word == 13 && second == 0) {
                raise(1);
            } else {
                int value = result(word, first, second);
                pushValue(value);
                if (spot == sight.sought) {
                    sight.measure(word, first - second, value);
                }
            }
        }

        private void give(int spot, int value) {
            pushValue(value);
            if (spot == sight.sought) {
                sight.measure(0, 0, value);
            }
        }

        /** Begins a call, whose arguments are the last values. */
        private void enter(int function, int spot) {
            int parameters = at(words.parameters, function);
            depth++;
            for (int i = 0; i < 8; i++) {
                put(variables, 8 * depth + i, i < parameters ? at(values, height - parameters + i) : 0);
            }
            for (int i = 0; i < 4; i++) {
                put(cells, 4 * depth + i, 0);
            }
            height -= parameters;
            put(bases, depth, height);
            push(CALL, spot);
            push(BEGIN, function * MOST_WORDS);
        }

        private void leave(int spot, int value) {
            height = at(bases, depth);
            depth--;
            if (depth < 0) {
                given = value;
                state = OVER;
            } else {
                state = GOING;
                give(spot, value);
            }
        }

        private void leaveThrown() {
            height = at(bases, depth);
            depth--;
            if (depth < 0) {
                given += THROWN;
                state = OVER;
            }
        }

        private void raise(int value) {
            given = value;
            state = THROWING;
        }

        private void beginAside(int spot) {
            aside.isOn = true;
            aside.steps = steps;
            aside.limit = limit;
            aside.depth = depth;
            aside.height = height;
            copyHidden(hidden, aside.hidden);
            spoil.isOff = true;
            steps = 0;
            limit = ASIDE_LIMIT;
            push(ASIDE, spot);
            push(FRESH, spot);
        }

        private void endAside(int spot, int result) {
            aside.isOn = false;
            steps = aside.steps;
            limit = aside.limit;
            depth = aside.depth;
            height = aside.height;
            copyHidden(aside.hidden, hidden);
            spoil.isOff = false;
            state = GOING;
            push(result << 13 | COMPARE, spot);
            push(FRESH, spot);
        }

        private void compare(int expected, int found) {
            if (expected != found) {
                aside.isInfected = true;
                state = OVER;
            }
        }

        private void copyHidden(int[] from, int[] to) {
            for (int i = 0; i < from.length && i < to.length; i++) {
                to[i] = from[i];
            }
        }

        private void push(int phase, int spot) {
            if (top >= 0 && top < control.length) {
                control[top] = spot << 4 | phase;
                top++;
            }
        }

        private int pop() {
            if (top <= 0 || top > control.length) {
                state = OVER;
                return CATCH;
            }
            top--;
            return control[top];
        }

        private void pushValue(int value) {
            if (height >= 0 && height < values.length) {
                values[height] = value;
                height++;
            }
        }

        private int popValue() {
            if (height <= 0 || height > values.length) {
                return 0;
            }
            height--;
            return values[height];
        }
    }

    /** The tests and the table of kills, with runs that are kept until something makes them stale. */
    private static final class Table {
        private final Words words;
        private final Mutants mutants;
        private final Spoil spoil = new Spoil();
        private final Sight sight = new Sight();
        private final Aside aside = new Aside();
        private final Machine machine;
        private final int[] functions = new int[MOST_TESTS];
        private final int[] arguments = new int[MOST_TESTS];
        private final int[] outcomes = new int[MOST_TESTS];
        private final int[] limits = new int[MOST_TESTS];
        private final int[] kills = new int[MOST_MUTANTS];
        private int tests;
        private int known;
        private int filled;
        private int limit = 200;

        private Table(Words itsWords, Mutants itsMutants) {
            words = itsWords;
            mutants = itsMutants;
            machine = new Machine(itsWords, spoil, sight, aside);
        }

        private int append(int function, int itsArguments) {
            put(functions, tests, function);
            put(arguments, tests, itsArguments);
            tests++;
            return tests - 1;
        }

        private void forgetRuns() {
            known = 0;
            sight.forget();
            forgetKills();
        }

        private void forgetKills() {
            filled = 0;
            for (int i = 0; i < MOST_MUTANTS; i++) {
                put(kills, i, 0);
            }
        }

        private int runPlain(int function, int itsArguments) {
            spoil.clear();
            return machine.run(function, itsArguments, limit, true);
        }

        /** Runs the program for each test that it was not run for yet. */
        private void settle() {
            for (int test = 0; test < tests; test++) {
                if ((known >> test & 1) == 0) {
                    known |= 1 << test;
                    spoil.clear();
                    sight.bit = 1 << test;
                    put(outcomes, test, machine.run(at(functions, test), at(arguments, test), limit, true));
                    sight.stop();
                    put(limits, test, limitBy(machine.steps));
                }
            }
        }

        /** Runs each mutant for each test that it was not run for yet, and that comes to its place. */
        private void fill() {
            settle();
            int many = mutants.size();
            for (int test = filled; test < tests; test++) {
                for (int mutant = 0; mutant < many; mutant++) {
                    if (isReached(mutant, test) && runMutant(mutant, test) != at(outcomes, test)) {
                        put(kills, mutant, at(kills, mutant) | 1 << test);
                    }
                }
            }
            filled = tests;
        }

        private int limitBy(int steps) {
            return steps > limit ? limit : 4 * steps + 20;
        }

        private int coverOf(int spot) {
            return at(sight.cover, spot);
        }

        private boolean isReached(int mutant, int test) {
            return (coverOf(mutants.spotOf(mutant)) >> test & 1) != 0;
        }

        private int runMutant(int mutant, int test) {
            spoil.take(mutants, mutant);
            return machine.run(at(functions, test), at(arguments, test), at(limits, test), true);
        }

        private int killsOf(int mutant) {
            return at(kills, mutant);
        }

        private int killsOfPair(int first, int second) {
            int reached = coverOf(mutants.spotOf(first)) | coverOf(mutants.spotOf(second));
            int found = 0;
            for (int test = 0; test < tests; test++) {
                if ((reached >> test & 1) != 0) {
                    spoil.take(mutants, first);
                    spoil.takeSecond(mutants, second);
                    int outcome = machine.run(at(functions, test), at(arguments, test), at(limits, test), true);
                    found |= outcome != at(outcomes, test) ? 1 << test : 0;
                }
            }
            return found;
        }

        private long countRuns() {
            settle();
            int many = mutants.size();
            long found = tests;
            for (int mutant = 0; mutant < many; mutant++) {
                found += Integer.bitCount(coverOf(mutants.spotOf(mutant)));
            }
            return found;
        }

        private boolean isInfected(int mutant, int test) {
            if (!isReached(mutant, test)) {
                return false;
            }
            if (mutants.kindOf(mutant) >= NEGATED) {
                return true;
            }
            aside.follow(mutants.spotOf(mutant));
            spoil.take(mutants, mutant);
            machine.run(at(functions, test), at(arguments, test), at(limits, test), true);
            boolean isSo = aside.isInfected;
            aside.follow(Aside.NONE);
            return isSo;
        }

        private int runBehind(int test, int before) {
            spoil.clear();
            machine.run(at(functions, before), at(arguments, before), limit, true);
            return machine.run(at(functions, test), at(arguments, test), limit, false);
        }

        /** Whether a test of these arguments would kill a mutant. */
        private boolean isKilledBy(int mutant, int function, int itsArguments) {
            spoil.clear();
            sight.watch(mutants.spotOf(mutant));
            int outcome = machine.run(function, itsArguments, limit, true);
            sight.stop();
            if (!sight.isCome) {
                return false;
            }
            spoil.take(mutants, mutant);
            return machine.run(function, itsArguments, limitBy(machine.steps), true) != outcome;
        }
    }

    /** Likes by one normal form and by all inputs. */
    private static final class Likes {
        private static final int UNKNOWN = 0;
        private static final int LIKE = 1;
        private static final int UNLIKE = 2;

        private final Words words;
        private final Mutants mutants;
        private final Table table;
        private final int[] source = new int[MOST_WORDS];
        private final int[] marks = new int[MOST_WORDS];
        private final int[] form = new int[MOST_WORDS];
        private final int[] plainForm = new int[MOST_WORDS];
        private final int[] segments = new int[MOST_WORDS + 1];
        private final int[] byAll = new int[MOST_MUTANTS];
        private int front;
        private int top;

        private Likes(Words itsWords, Mutants itsMutants, Table itsTable) {
            words = itsWords;
            mutants = itsMutants;
            table = itsTable;
        }

        private void forget() {
            for (int i = 0; i < MOST_MUTANTS; i++) {
                put(byAll, i, UNKNOWN);
            }
        }

        private int countUnlike() {
            int many = mutants.size();
            int found = 0;
            for (int mutant = 0; mutant < many; mutant++) {
                found += isOneForm(mutant) ? 0 : 1;
            }
            return found;
        }

        private int countKilled(int tests) {
            int many = mutants.size();
            int found = 0;
            for (int mutant = 0; mutant < many; mutant++) {
                boolean isKilled = (table.killsOf(mutant) & tests) != 0;
                found += isKilled && !isOneForm(mutant) ? 1 : 0;
            }
            return found;
        }

        private boolean isByAllInputs(int mutant) {
            if (!words.isPlain()) {
                return false;
            }
            boolean isNew = at(byAll, mutant) == UNKNOWN;
            boolean isKilled = false;
            for (int function = 0; function < words.functions && isNew; function++) {
                int inputs = words.inputs(function);
                for (int i = 0; i < inputs && !isKilled; i++) {
                    isKilled = table.isKilledBy(mutant, function, words.inputAt(function, i));
                }
            }
            if (isNew) {
                put(byAll, mutant, isKilled ? UNLIKE : LIKE);
            }
            return at(byAll, mutant) == LIKE;
        }

        private boolean isOneForm(int mutant) {
            if (mutants.kindOf(mutant) >= NEGATED) {
                return false;
            }
            int spot = mutants.spotOf(mutant);
            simplify(load(spot / MOST_WORDS));
            int plainFront = front;
            for (int i = front; i < MOST_WORDS; i++) {
                put(plainForm, i, at(form, i));
            }
            int length = load(spot / MOST_WORDS);
            simplify(spoilSource(mutant, spot % MOST_WORDS, length));
            if (front != plainFront) {
                return false;
            }
            for (int i = front; i < MOST_WORDS; i++) {
                if (at(form, i) != at(plainForm, i)) {
                    return false;
                }
            }
            return true;
        }

        private int load(int function) {
            int length = at(words.lengths, function);
            for (int i = 0; i < length; i++) {
                put(source, i, words.wordAt(function * MOST_WORDS + i));
                put(marks, i, at(words.kinds, function * MOST_WORDS + i));
            }
            return length;
        }

        private int spoilSource(int mutant, int index, int length) {
            if (mutants.kindOf(mutant) != BARE) {
                put(source, index, mutants.givenOf(mutant));
                return length;
            }
            for (int i = index; i < length - 1; i++) {
                put(source, i, at(source, i + 1));
                put(marks, i, at(marks, i + 1));
            }
            return length - 1;
        }

        /** Writes the simpler words from the right, so that the parts of an expression are at the front. */
        private void simplify(int length) {
            front = MOST_WORDS;
            top = 0;
            for (int i = length - 1; i >= 0; i--) {
                int word = at(source, i);
                front--;
                put(form, front, word);
                if (at(marks, i) == EXPRESSION) {
                    join(word, words.partsOf(word));
                }
            }
        }

        private void join(int word, int parts) {
            int first = parts > 0 ? at(segments, top - 1) : 0;
            int second = parts > 1 ? at(segments, top - 2) : 0;
            int third = parts > 2 ? at(segments, top - 3) : 0;
            int before = front;
            int length = 1 + first + second + third + (word == 24 ? 1 : 0);
            top -= parts;
            if (word >= 10 && word <= 19) {
                shortenTwo(word, first, second);
            } else if (word == 20 || word == 21) {
                shortenOne(word, first);
            }
            put(segments, top, length - (front - before));
            top++;
        }

        private void shortenOne(int word, int length) {
            int part = at(form, front + 1);
            if (length == 1 && part >= 92) {
                front++;
                put(form, front, 100 + result(word, part - 100, 0));
            } else if (word == 20 && part == 20) {
                front += 2;
            }
        }

        private void shortenTwo(int word, int first, int second) {
            int one = first == 1 ? at(form, front + 1) : -1;
            int other = second == 1 ? at(form, front + 1 + first) : -1;
            if (one >= 92 && other >= 92) {
                if (word != 13 || other != 100) {
                    front += 2;
                    put(form, front, 100 + result(word, one - 100, other - 100));
                }
            } else if (word == 10 && one == 100 || word == 12 && one == 101) {
                front += 2;
            } else if ((word == 10 || word == 11) && other == 100 || word == 12 && other == 101) {
                for (int i = front + 1 + first; i > front + 1; i--) {
                    put(form, i, at(form, i - 1));
                }
                front += 2;
            } else if (isLeaf(one) && isLeaf(other) && one > other && isTurnable(word)) {
                put(form, front + 1, other);
                put(form, front + 2, one);
            }
        }

        private boolean isLeaf(int word) {
            return word >= 0 && word <= 7 || word >= 92;
        }

        private boolean isTurnable(int word) {
            return word == 10 || word == 12 || word >= 16 && word <= 19;
        }
    }

    /** Sets of tests, and samples. */
    private static final class Sets {
        private final Words words;
        private final Mutants mutants;
        private final Table table;
        private final int[] masks = new int[MOST_SPOTS];
        private final int[] lowest = new int[MOST_SPOTS];
        private final int[] drawn = new int[MOST_MUTANTS];
        private int many;

        private Sets(Words itsWords, Mutants itsMutants, Table itsTable) {
            words = itsWords;
            mutants = itsMutants;
            table = itsTable;
        }

        /** Gathers the least kills, each with the lowest mutant that has them. */
        private int gatherLeast() {
            int all = mutants.size();
            many = 0;
            for (int mutant = 0; mutant < all; mutant++) {
                gather(table.killsOf(mutant), mutant);
            }
            dropSubsumed();
            return many;
        }

        private void gatherPlaces() {
            many = 0;
            for (int place = 0; place < words.places; place++) {
                gather(table.coverOf(at(words.spots, place)), place);
            }
            dropSubsumed();
        }

        private void gather(int mask, int from) {
            boolean isNew = mask != 0;
            for (int i = 0; i < many && isNew; i++) {
                isNew = at(masks, i) != mask;
            }
            if (isNew) {
                put(masks, many, mask);
                put(lowest, many, from);
                many++;
            }
        }

        // What is dropped has some kept one in it, so that a set with that one has it as well.
        // What is not kept is put behind, since others may be judged by it still.
        private void dropSubsumed() {
            int kept = 0;
            for (int i = 0; i < many; i++) {
                if (!isSubsumedByAny(i)) {
                    swap(masks, kept, i);
                    swap(lowest, kept, i);
                    kept++;
                }
            }
            many = kept;
        }

        private boolean isSubsumedByAny(int index) {
            for (int i = 0; i < many; i++) {
                if (isSome(at(masks, i), at(masks, index))) {
                    return true;
                }
            }
            return false;
        }

        private void swap(int[] row, int one, int other) {
            int kept = at(row, one);
            put(row, one, at(row, other));
            put(row, other, kept);
        }

        private int countHit(int tests) {
            int found = 0;
            for (int i = 0; i < many; i++) {
                found += (at(masks, i) & tests) != 0 ? 1 : 0;
            }
            return found;
        }

        private boolean isHittingAll(int tests) {
            for (int i = 0; i < many; i++) {
                if ((at(masks, i) & tests) == 0) {
                    return false;
                }
            }
            return true;
        }

        /** The fewest tests that hit all that was gathered; rising numbers leave the least one of several. */
        private int fewest() {
            int best = (1 << table.tests) - 1;
            for (int tests = 0; tests < 1 << table.tests; tests++) {
                if (Integer.bitCount(tests) < Integer.bitCount(best) && isHittingAll(tests)) {
                    best = tests;
                }
            }
            return best;
        }

        private int ordered(int index) {
            int ahead = 0;
            int next = 0;
            for (int i = 0; i <= index; i++) {
                next = mostKilling(ahead);
                ahead |= 1 << next;
            }
            return next;
        }

        private int mostKilling(int ahead) {
            int best = 0;
            int most = -1;
            for (int test = 0; test < table.tests; test++) {
                if ((ahead >> test & 1) == 0) {
                    int found = countNew(test, ahead);
                    if (found > most) {
                        most = found;
                        best = test;
                    }
                }
            }
            return best;
        }

        private int countNew(int test, int ahead) {
            int found = 0;
            for (int mutant = 0; mutant < mutants.many; mutant++) {
                int kills = table.killsOf(mutant);
                found += (kills & ahead) == 0 ? kills >> test & 1 : 0;
            }
            return found;
        }

        private int countDrawn(int seed, int taken) {
            int all = mutants.size();
            for (int i = 0; i < all; i++) {
                put(drawn, i, i);
            }
            int z = seed;
            int found = 0;
            for (int k = 0; k < taken && k < all; k++) {
                z = 1103515245 * z + 12345;
                swap(drawn, k, k + (z >>> 16) % (all - k));
                found += table.killsOf(at(drawn, k)) != 0 ? 1 : 0;
            }
            return found;
        }
    }

    /** Inputs that kill a mutant, or come near to an expression being so. */
    private static final class Search {
        private final Words words;
        private final Mutants mutants;
        private final Table table;

        private Search(Words itsWords, Mutants itsMutants, Table itsTable) {
            words = itsWords;
            mutants = itsMutants;
            table = itsTable;
        }

        private int firstKilling(int mutant, int function) {
            int inputs = words.inputs(function);
            for (int i = 0; i < inputs; i++) {
                int arguments = words.inputAt(function, i);
                if (table.isKilledBy(mutant, function, arguments)) {
                    return arguments;
                }
            }
            return -1;
        }

        private int distance(int function, int arguments, int spot, boolean isSo) {
            table.spoil.clear();
            table.sight.seek(spot, isSo);
            table.machine.run(function, arguments, table.limit, true);
            table.sight.stop();
            return table.sight.distance;
        }

        /** The distance falls at each turn, and is 99 at most. */
        private int climbed(int function, int spot, boolean isSo) {
            int here = ALL_ZERO;
            int least = distance(function, here, spot, isSo);
            for (int turn = 0; turn <= NEVER && least > 0; turn++) {
                int next = here;
                for (int i = 0; i < 2 * at(words.parameters, function); i++) {
                    int beside = besideOf(here, i);
                    int found = distance(function, beside, spot, isSo);
                    if (found < least) {
                        least = found;
                        next = beside;
                    }
                }
                if (next == here) {
                    return -1;
                }
                here = next;
            }
            return here;
        }

        private int besideOf(int arguments, int index) {
            int shift = 8 - 4 * (index / 2);
            int part = (arguments >> shift) + (index % 2 == 0 ? 1 : -1) & 15;
            return arguments & ~(15 << shift) | part << shift;
        }
    }

    /** Oracles by properties, relations and peers. */
    private static final class Oracles {
        private final Mutants mutants;
        private final Table table;
        private final int[] kinds = new int[MOST_ORACLES];
        private final int[] functions = new int[MOST_ORACLES];
        private final int[] peers = new int[MOST_ORACLES];
        private int size;

        private Oracles(Mutants itsMutants, Table itsTable) {
            mutants = itsMutants;
            table = itsTable;
        }

        private int append(char kind, int function, int peer) {
            put(kinds, size, kind);
            put(functions, size, function);
            put(peers, size, peer);
            size++;
            return size - 1;
        }

        private int countHolding(int oracle) {
            table.spoil.clear();
            int found = 0;
            for (int test = 0; test < table.tests; test++) {
                found += isOf(oracle, test) && judge(oracle, test, table.limit) ? 1 : 0;
            }
            return found;
        }

        private int killsBy(int oracle, int mutant) {
            table.settle();
            int found = 0;
            for (int test = 0; test < table.tests; test++) {
                table.spoil.clear();
                if (isOf(oracle, test) && judge(oracle, test, table.limit)) {
                    table.spoil.take(mutants, mutant);
                    found |= judge(oracle, test, at(table.limits, test)) ? 0 : 1 << test;
                }
            }
            return found;
        }

        private boolean isOf(int oracle, int test) {
            return at(table.functions, test) == at(functions, oracle);
        }

        private boolean judge(int oracle, int test, int limit) {
            int function = at(functions, oracle);
            int arguments = at(table.arguments, test);
            int outcome = table.machine.run(function, arguments, limit, true);
            if (outcome == PASSED) {
                return false;
            }
            int kind = at(kinds, oracle);
            if (kind == 'p') {
                return outcome >= 0 && outcome <= 7;
            }
            if (kind == 'z') {
                return outcome <= 7;
            }
            if (kind == 'c') {
                return outcome == table.machine.run(function, exchanged(arguments), limit, true);
            }
            return outcome == table.machine.run(at(peers, oracle), arguments, limit, true);
        }

        private int exchanged(int arguments) {
            return arguments & 15 | (arguments >> 8 & 15) << 4 | (arguments >> 4 & 15) << 8;
        }
    }
}
