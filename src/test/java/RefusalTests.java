import java.util.function.Function;
import java.util.function.Supplier;

/**
 * Each "Throws" of the promises, with the values just inside and just outside of what is allowed; a refused call
 * changes nothing; of several exceptions the one that is listed first is thrown.
 */
public final class RefusalTests {
    private static int passed;
    private static int failed;
    private static int sentences;
    private static String sentence = "";

    private static final Class<?> ARGUMENT = IllegalArgumentException.class;
    private static final Class<?> STATE = IllegalStateException.class;
    private static final Class<?> INDEX = IndexOutOfBoundsException.class;
    private static final Class<?> UNSUPPORTED = UnsupportedOperationException.class;
    private static final Class<?> ARITHMETIC = ArithmeticException.class;
    private static final Class<?> NONE = java.util.NoSuchElementException.class;

    private static final int LEAST = Integer.MIN_VALUE;
    private static final int GREATEST = Integer.MAX_VALUE;
    private static final String OPERATORS = "carluvns";

    public static void main(String[] args) {
        typeOutOfRange();
        typeIntoFullRow();
        wrongAtOutOfRange();
        defineOutOfRange();
        defineWrongRow();
        defineFifth();
        changeOfNone();
        changeWrongRow();
        wordOfNone();
        runsOfNoFunction();
        runsOfNoArguments();
        limitOutOfRange();
        noOperator();
        setFunctionOfNone();
        mutantsOutOfRange();
        addTestRefused();
        testsOutOfRange();
        minimalAtNone();
        scoreOfNoTests();
        scoreByZero();
        orderAtNone();
        noPair();
        killingRefused();
        farRefused();
        climbRefused();
        addOracleRefused();
        oraclesOutOfRange();
        samplesOutOfRange();
        boundOfMoreThanFifty();
        meanOfNone();
        firstListedIsThrown();
        System.out.println("refusals: " + sentences + " sentences, " + passed + " checks passed, " + failed + " failed");
        if (failed != 0) {
            System.exit(1);
        }
    }

    // ------------------------------------------------------------------ helpers

    private static void says(String text) {
        sentence = text;
        sentences++;
    }

    private static void due(String what, Object got, Object want) {
        if (got.equals(want)) {
            passed++;
        } else {
            failed++;
            System.out.println("\"" + sentence + "\": " + what + " answered " + got + ", due is " + want);
        }
    }

    private static Object answerOf(Mutagenry works, Function<Mutagenry, Object> call) {
        try {
            return call.apply(works);
        } catch (RuntimeException e) {
            return e.getClass();
        }
    }

    /** The call is refused, and the object answers as one that never got it. */
    private static void refused(String what, Class<?> want, Supplier<Mutagenry> maker,
            Function<Mutagenry, Object> call) {
        Mutagenry works = maker.get();
        due(what, answerOf(works, call), want);
        due(what + ", asked again", answerOf(works, call), want);
        due(what + ", what it answers then", answers(works), answers(maker.get()));
    }

    private static void refused(String what, Class<?> want, Function<Mutagenry, Object> call) {
        refused(what, want, RefusalTests::ordinary, call);
    }

    private static void allowed(String what, Object want, Function<Mutagenry, Object> call) {
        due(what, answerOf(ordinary(), call), want);
    }

    /** All that an object tells, the row and what was set at last, since asking for these changes them. */
    private static String answers(Mutagenry works) {
        StringBuilder text = new StringBuilder();
        text.append(works.functions()).append(' ').append(works.tests()).append(' ').append(works.changes());
        text.append(' ').append(works.places()).append(' ').append(works.mutants()).append(' ').append(works.runs());
        text.append(' ').append(works.ways()).append(' ').append(works.minimals());
        text.append(' ').append(works.leastSet(true)).append(' ').append(works.leastSet(false)).append(" words");
        for (int place = 0; place < works.places() && place < 20; place++) {
            text.append(' ').append(works.wordOf(place));
        }
        text.append(" expected");
        for (int test = 0; test < works.tests(); test++) {
            text.append(' ').append(works.expected(test));
        }
        text.append(" kills");
        for (int mutant = 0; mutant < works.mutants() && mutant < 20; mutant++) {
            text.append(' ').append(works.operatorOf(mutant)).append(works.kills(mutant));
        }
        text.append(" holds");
        for (int oracle = 0; oracle < 9; oracle++) {
            int number = oracle;
            text.append(' ').append(answerOf(works, x -> x.holds(number)));
        }
        text.append(" counted");
        for (char operator : OPERATORS.toCharArray()) {
            text.append(' ').append(works.counted(operator, false)).append('/').append(works.counted(operator, true));
            text.append(works.setOperator(operator, true));
        }
        for (int function = 0; function < works.functions(); function++) {
            text.append(' ').append(works.setFunction(function, true));
        }
        text.append(" limit ").append(works.setLimit(77)).append(" row");
        for (int parameters = 0; parameters <= 3; parameters++) {
            text.append(' ').append(works.wrongAt(parameters));
        }
        return text.append(' ').append(works.erase()).toString();
    }

    private static void type(Mutagenry works, int... words) {
        for (int word : words) {
            works.type(word);
        }
    }

    private static int add(Mutagenry works, int parameters, int... words) {
        type(works, words);
        return works.define(parameters);
    }

    private static Mutagenry made(int parameters, int... words) {
        Mutagenry works = new Mutagenry();
        add(works, parameters, words);
        return works;
    }

    private static int number(int first, int second, int third) {
        return 256 * (first + 8) + 16 * (second + 8) + third + 8;
    }

    /** 2 functions, of 2 parameters and 1; 12 places, 17 mutants, 3 tests, 2 oracles, 1 change, 1 word. */
    private static Mutagenry ordinary() {
        Mutagenry works = made(2, 43, 14, 1, 0, 47, 0, 47, 105);
        add(works, 1, 47, 10, 0, 101);
        works.addTest(0, number(3, 1, 0));
        works.addTest(0, number(2, 2, 0));
        works.addTest(1, number(5, 0, 0));
        type(works, 47, 11, 0, 101);
        works.change(1);
        works.setLimit(150);
        works.setOperator('s', false);
        works.setFunction(1, false);
        works.setFunction(1, true);
        works.addOracle('p', 0, 0);
        works.addOracle('d', 1, 1);
        works.type(47);
        return works;
    }

    private static Mutagenry rightRow() {
        Mutagenry works = ordinary();
        works.type(100);
        return works;
    }

    private static Mutagenry fullRow() {
        Mutagenry works = ordinary();
        for (int i = 1; i < 90; i++) {
            works.type(10);
        }
        return works;
    }

    private static Mutagenry fourFunctions() {
        Mutagenry works = ordinary();
        works.erase();
        add(works, 0, 47, 100);
        add(works, 3, 47, 2);
        return works;
    }

    private static Mutagenry sixteenTests() {
        Mutagenry works = ordinary();
        for (int i = 3; i < 16; i++) {
            works.addTest(1, 256 * i + 136);
        }
        return works;
    }

    private static Mutagenry eightOracles() {
        Mutagenry works = ordinary();
        for (int i = 2; i < 8; i++) {
            works.addOracle(i % 2 == 0 ? 'z' : 'c', 0, 0);
        }
        return works;
    }

    private static Mutagenry noMutants() {
        Mutagenry works = ordinary();
        for (char operator : OPERATORS.toCharArray()) {
            works.setOperator(operator, false);
        }
        return works;
    }

    private static Mutagenry empty() {
        return new Mutagenry();
    }

    // ------------------------------------------------------------------ the row and the functions

    private static void typeOutOfRange() {
        says("type: Throws IllegalArgumentException if it is out of range");
        refused("-1", ARGUMENT, x -> x.type(-1));
        refused("108", ARGUMENT, x -> x.type(108));
        refused("the least", ARGUMENT, x -> x.type(LEAST));
        refused("the greatest", ARGUMENT, x -> x.type(GREATEST));
        refused("of a new object", ARGUMENT, RefusalTests::empty, x -> x.type(108));
        for (int word = 0; word <= 107; word++) {
            int typed = word;
            allowed("word " + word, 2, x -> x.type(typed));
        }
    }

    private static void typeIntoFullRow() {
        says("type: Throws IllegalStateException if it has 90");
        refused("the 91st", STATE, RefusalTests::fullRow, x -> x.type(0));
        refused("the 91st, 107", STATE, RefusalTests::fullRow, x -> x.type(107));
        Mutagenry works = new Mutagenry();
        for (int i = 1; i <= 90; i++) {
            due("word " + i, works.type(105), i);
        }
        due("all are taken out", works.erase(), 90);
        due("and it takes words again", works.type(105), 1);
    }

    private static void wrongAtOutOfRange() {
        says("wrongAt: Throws IllegalArgumentException if the number is out of range");
        refused("-1", ARGUMENT, x -> x.wrongAt(-1));
        refused("4", ARGUMENT, x -> x.wrongAt(4));
        refused("the least", ARGUMENT, x -> x.wrongAt(LEAST));
        refused("the greatest", ARGUMENT, x -> x.wrongAt(GREATEST));
        refused("of an empty row", ARGUMENT, RefusalTests::empty, x -> x.wrongAt(4));
        allowed("0", 1, x -> x.wrongAt(0));
        allowed("3", 1, x -> x.wrongAt(3));
    }

    private static void defineOutOfRange() {
        says("define: Throws IllegalArgumentException if the number is out of range");
        refused("-1", ARGUMENT, RefusalTests::rightRow, x -> x.define(-1));
        refused("4", ARGUMENT, RefusalTests::rightRow, x -> x.define(4));
        refused("the least", ARGUMENT, RefusalTests::rightRow, x -> x.define(LEAST));
        refused("the greatest", ARGUMENT, RefusalTests::rightRow, x -> x.define(GREATEST));
        due("0", answerOf(rightRow(), x -> x.define(0)), 2);
        due("3", answerOf(rightRow(), x -> x.define(3)), 2);
    }

    private static void defineWrongRow() {
        says("define: Throws UnsupportedOperationException if the row is wrong");
        refused("something lacks", UNSUPPORTED, x -> x.define(0));
        refused("an empty row", UNSUPPORTED, RefusalTests::empty, x -> x.define(0));
        refused("90 words that lack", UNSUPPORTED, RefusalTests::fullRow, x -> x.define(3));
        refused("a word too many", UNSUPPORTED, () -> typed(100, 100), x -> x.define(0));
        refused("a function that is not there", UNSUPPORTED, () -> typed(33), x -> x.define(0));
        refused("one's own argument lacks", UNSUPPORTED, () -> typed(32), x -> x.define(1));
        due("no argument lacks", answerOf(typed(32), x -> x.define(0)), 2);
    }

    private static Mutagenry typed(int... words) {
        Mutagenry works = ordinary();
        type(works, words);
        return works;
    }

    private static void defineFifth() {
        says("define: Throws IllegalStateException if there are 4 functions");
        refused("a fifth one", STATE, () -> fourWith(47, 100), x -> x.define(0));
        refused("a fifth one of 3 parameters", STATE, () -> fourWith(47, 2), x -> x.define(3));
        Mutagenry three = ordinary();
        three.erase();
        add(three, 0, 47, 100);
        type(three, 47, 100);
        due("a fourth one", answerOf(three, x -> x.define(0)), 3);
        due("change of one of four", answerOf(fourWith(47, 100), x -> x.change(3)), 2);
    }

    private static Mutagenry fourWith(int... words) {
        Mutagenry works = fourFunctions();
        type(works, words);
        return works;
    }

    private static void changeOfNone() {
        says("change: Throws IndexOutOfBoundsException if there is no such function");
        refused("-1", INDEX, RefusalTests::rightRow, x -> x.change(-1));
        refused("2 of 2", INDEX, RefusalTests::rightRow, x -> x.change(2));
        refused("the least", INDEX, RefusalTests::rightRow, x -> x.change(LEAST));
        refused("the greatest", INDEX, RefusalTests::rightRow, x -> x.change(GREATEST));
        refused("4 of 4", INDEX, () -> fourWith(47, 100), x -> x.change(4));
        refused("0 of none", INDEX, RefusalTests::empty, x -> x.change(0));
        due("the first one", answerOf(rightRow(), x -> x.change(0)), 2);
        due("the last one", answerOf(rightRow(), x -> x.change(1)), 2);
    }

    private static void changeWrongRow() {
        says("change: Throws UnsupportedOperationException if the row is wrong");
        refused("something lacks", UNSUPPORTED, x -> x.change(0));
        refused("a word too many", UNSUPPORTED, () -> typed(100, 46), x -> x.change(1));
        refused("a function that is not there", UNSUPPORTED, () -> typed(32), x -> x.change(1));
        refused("it has one parameter, not none", UNSUPPORTED, () -> typed(31), x -> x.change(1));
        refused("it has one parameter, not two", UNSUPPORTED, () -> typed(31, 0, 0), x -> x.change(1));
        due("it has one parameter", answerOf(typed(31, 0), x -> x.change(1)), 2);
        Mutagenry erased = ordinary();
        erased.erase();
        due("an empty row", answerOf(erased, x -> x.change(0)), UNSUPPORTED);
        due("is no change", erased.changes(), 1);
    }

    private static void wordOfNone() {
        says("wordOf: Throws IndexOutOfBoundsException if there is no such place");
        refused("-1", INDEX, x -> x.wordOf(-1));
        refused("12 of 12", INDEX, x -> x.wordOf(12));
        refused("the least", INDEX, x -> x.wordOf(LEAST));
        refused("the greatest", INDEX, x -> x.wordOf(GREATEST));
        refused("of no places", INDEX, RefusalTests::empty, x -> x.wordOf(0));
        allowed("0", 43, x -> x.wordOf(0));
        allowed("11", 101, x -> x.wordOf(11));
    }

    // ------------------------------------------------------------------ runs

    private static void runsOfNoFunction() {
        says("outcome and steps: Throws IndexOutOfBoundsException if there is no such function");
        for (int function : new int[] {-1, 2, LEAST, GREATEST}) {
            refused("outcome of " + function, INDEX, x -> x.outcome(function, 0));
            refused("steps of " + function, INDEX, x -> x.steps(function, 0));
        }
        refused("outcome of none", INDEX, RefusalTests::empty, x -> x.outcome(0, 0));
        refused("steps of none", INDEX, RefusalTests::empty, x -> x.steps(0, 0));
        allowed("outcome of 1", 7, x -> x.outcome(1, 0));
        allowed("steps of 1", 1, x -> x.steps(1, 0));
    }

    private static void runsOfNoArguments() {
        says("outcome and steps: Throws IllegalArgumentException if the number is less than 0 or greater than 4095");
        for (int arguments : new int[] {-1, 4096, LEAST, GREATEST}) {
            refused("outcome of " + arguments, ARGUMENT, x -> x.outcome(0, arguments));
            refused("steps of " + arguments, ARGUMENT, x -> x.steps(0, arguments));
        }
        allowed("outcome of 0", 5, x -> x.outcome(0, 0));
        allowed("outcome of 4095", 5, x -> x.outcome(0, 4095));
        allowed("steps of 0", 2, x -> x.steps(0, 0));
        allowed("steps of 4095", 2, x -> x.steps(0, 4095));
    }

    private static void limitOutOfRange() {
        says("setLimit: Throws IllegalArgumentException if it is out of range");
        for (int limit : new int[] {9, 401, 0, -10, LEAST, GREATEST}) {
            refused("limit " + limit, ARGUMENT, x -> x.setLimit(limit));
        }
        allowed("10", 150, x -> x.setLimit(10));
        allowed("400", 150, x -> x.setLimit(400));
    }

    // ------------------------------------------------------------------ mutants

    private static void noOperator() {
        says("setOperator, prediction, counted: Throws IllegalArgumentException if there is no such operator");
        for (char operator = 0; operator < 300; operator++) {
            char asked = operator;
            boolean isThere = OPERATORS.indexOf(operator) >= 0;
            Object kept = isThere ? asked != 's' : ARGUMENT;
            allowed("setOperator " + (int) operator, kept, x -> x.setOperator(asked, true));
            Object all = isThere ? ordinary().counted(asked, false) : ARGUMENT;
            allowed("counted " + (int) operator, all, x -> x.counted(asked, false));
            Object part = isThere ? ordinary().prediction(asked) : ARGUMENT;
            allowed("prediction " + (int) operator, part, x -> x.prediction(asked));
        }
        for (char operator : new char[] {0, 'b', 'C', 'p', 'z', 'd', '-', 65535}) {
            refused("setOperator of " + (int) operator, ARGUMENT, x -> x.setOperator(operator, true));
            refused("setOperator of " + (int) operator, ARGUMENT, x -> x.setOperator(operator, false));
            refused("prediction of " + (int) operator, ARGUMENT, x -> x.prediction(operator));
            refused("counted of " + (int) operator, ARGUMENT, x -> x.counted(operator, true));
        }
    }

    private static void setFunctionOfNone() {
        says("setFunction: Throws IndexOutOfBoundsException if there is no such function");
        for (int function : new int[] {-1, 2, 3, 4, 31, 32, LEAST, GREATEST}) {
            refused("function " + function, INDEX, x -> x.setFunction(function, false));
        }
        refused("of none", INDEX, RefusalTests::empty, x -> x.setFunction(0, false));
        allowed("the first one", true, x -> x.setFunction(0, false));
        allowed("the last one", true, x -> x.setFunction(1, false));
        Mutagenry works = ordinary();
        answerOf(works, x -> x.setFunction(2, false));
        works.erase();
        add(works, 0, 47, 100);
        due("one that came later is in", works.setFunction(2, true), true);
    }

    private static void mutantsOutOfRange() {
        says("placeOf to oracleKills: Throws IndexOutOfBoundsException if there is no such mutant");
        due("mutants", ordinary().mutants(), 15);
        for (int mutant : new int[] {-1, 15, LEAST, GREATEST}) {
            refused("placeOf " + mutant, INDEX, x -> x.placeOf(mutant));
            refused("operatorOf " + mutant, INDEX, x -> x.operatorOf(mutant));
            refused("mutatedWord " + mutant, INDEX, x -> x.mutatedWord(mutant));
            refused("told " + mutant, INDEX, x -> x.told(mutant, 0));
            refused("alone " + mutant, INDEX, x -> x.alone(mutant, 0));
            refused("kills " + mutant, INDEX, x -> x.kills(mutant));
            refused("isLike " + mutant, INDEX, x -> x.isLike(mutant));
            refused("isSubsumed " + mutant, INDEX, x -> x.isSubsumed(mutant, 0));
            refused("isSubsumed by " + mutant, INDEX, x -> x.isSubsumed(0, mutant));
            refused("pairKills " + mutant, INDEX, x -> x.pairKills(mutant, 14));
            refused("pairKills, second " + mutant, INDEX, x -> x.pairKills(14, mutant));
            refused("masked " + mutant, INDEX, x -> x.masked(mutant, 14));
            refused("masked, second " + mutant, INDEX, x -> x.masked(14, mutant));
            refused("isHarder " + mutant, INDEX, x -> x.isHarder(mutant, 14));
            refused("isHarder, second " + mutant, INDEX, x -> x.isHarder(14, mutant));
            refused("killing " + mutant, INDEX, x -> x.killing(mutant, 0));
            refused("oracleKills " + mutant, INDEX, x -> x.oracleKills(0, mutant));
        }
        lastMutant();
        refused("of none", INDEX, RefusalTests::noMutants, x -> x.kills(0));
        refused("of a new object", INDEX, RefusalTests::empty, x -> x.placeOf(0));
    }

    private static void lastMutant() {
        allowed("placeOf", 11, x -> x.placeOf(14));
        allowed("operatorOf", 'c', x -> x.operatorOf(14));
        allowed("mutatedWord", 100, x -> x.mutatedWord(14));
        allowed("told", 'k', x -> x.told(14, 2));
        allowed("alone", 5, x -> x.alone(14, 2));
        allowed("kills", 4, x -> x.kills(14));
        allowed("isLike", '-', x -> x.isLike(14));
        allowed("isSubsumed", false, x -> x.isSubsumed(14, 14));
        allowed("pairKills", 7, x -> x.pairKills(14, 0));
        allowed("masked", 0, x -> x.masked(0, 14));
        allowed("isHarder", false, x -> x.isHarder(0, 14));
        allowed("killing", number(-8, 0, 0), x -> x.killing(14, 1));
        allowed("oracleKills", 0, x -> x.oracleKills(1, 14));
    }

    // ------------------------------------------------------------------ tests and sets

    private static void addTestRefused() {
        says("addTest: Throws IndexOutOfBoundsException if there is no such function");
        for (int function : new int[] {-1, 2, LEAST, GREATEST}) {
            refused("function " + function, INDEX, x -> x.addTest(function, 0));
        }
        refused("of none", INDEX, RefusalTests::empty, x -> x.addTest(0, 0));
        allowed("the last function", 3, x -> x.addTest(1, 0));
        says("addTest: Throws IllegalArgumentException if the number is less than 0 or greater than 4095");
        for (int arguments : new int[] {-1, 4096, LEAST, GREATEST}) {
            refused("arguments " + arguments, ARGUMENT, x -> x.addTest(0, arguments));
        }
        allowed("0", 3, x -> x.addTest(0, 0));
        allowed("4095", 3, x -> x.addTest(0, 4095));
        says("addTest: Throws IllegalStateException if there are 16 tests");
        refused("the 17th", STATE, RefusalTests::sixteenTests, x -> x.addTest(0, 0));
        Mutagenry works = ordinary();
        for (int i = 3; i < 16; i++) {
            due("test " + i, answerOf(works, x -> x.addTest(1, 0)), i);
        }
        due("the 17th", answerOf(works, x -> x.addTest(1, 0)), STATE);
        due("16 are there", works.tests(), 16);
    }

    private static void testsOutOfRange() {
        says("expected, told, alone, covers, after, leans: Throws IndexOutOfBoundsException if there is no such test");
        for (int test : new int[] {-1, 3, 16, 32, LEAST, GREATEST}) {
            refused("expected " + test, INDEX, x -> x.expected(test));
            refused("told " + test, INDEX, x -> x.told(0, test));
            refused("alone " + test, INDEX, x -> x.alone(0, test));
            refused("covers " + test, INDEX, x -> x.covers(test));
            refused("after " + test, INDEX, x -> x.after(test, 0));
            refused("after, before " + test, INDEX, x -> x.after(0, test));
            refused("leans " + test, INDEX, x -> x.leans(test));
        }
        allowed("expected 2", 4, x -> x.expected(2));
        allowed("told 2", '-', x -> x.told(0, 2));
        allowed("alone 2", 4, x -> x.alone(0, 2));
        allowed("covers 2", 4, x -> x.covers(2));
        allowed("after 2 and 2", 4, x -> x.after(2, 2));
        allowed("leans 2", false, x -> x.leans(2));
        refused("expected of none", INDEX, RefusalTests::empty, x -> x.expected(0));
        refused("16 of 16", INDEX, RefusalTests::sixteenTests, x -> x.told(0, 16));
        due("15 of 16", answerOf(sixteenTests(), x -> x.expected(15)), 6);
    }

    private static void minimalAtNone() {
        says("minimalAt: Throws NoSuchElementException if there is no such mutant");
        due("minimal ones", ordinary().minimals(), 3);
        for (int index : new int[] {-1, 3, LEAST, GREATEST}) {
            refused("index " + index, NONE, x -> x.minimalAt(index));
        }
        allowed("0", 1, x -> x.minimalAt(0));
        allowed("2", 10, x -> x.minimalAt(2));
        refused("of none", NONE, RefusalTests::noMutants, x -> x.minimalAt(0));
        refused("of a new object", NONE, RefusalTests::empty, x -> x.minimalAt(0));
    }

    private static void scoreOfNoTests() {
        says("score: Throws IllegalArgumentException if there are no such tests");
        for (int tests : new int[] {-1, 8, 15, 65536, LEAST, GREATEST}) {
            refused("killed ones of " + tests, ARGUMENT, x -> x.score(tests, false));
            refused("least kills of " + tests, ARGUMENT, x -> x.score(tests, true));
        }
        refused("1 of no tests", ARGUMENT, () -> made(0, 47, 100), x -> x.score(1, false));
        allowed("none", 0f, x -> x.score(0, false));
        allowed("none of the least kills", 0f, x -> x.score(0, true));
        allowed("all", 1f, x -> x.score(7, true));
        due("0 of no tests", answerOf(made(0, 47, 100), x -> x.score(0, false)), 0f);
        due("65535 of 16", answerOf(sixteenTests(), x -> x.score(65535, true)), 1f);
        refused("65536 of 16", ARGUMENT, RefusalTests::sixteenTests, x -> x.score(65536, false));
    }

    private static void scoreByZero() {
        says("score: Throws ArithmeticException if it is divided by 0");
        refused("no mutants", ARITHMETIC, RefusalTests::noMutants, x -> x.score(7, false));
        refused("no least kills", ARITHMETIC, RefusalTests::noMutants, x -> x.score(7, true));
        refused("none, no tests", ARITHMETIC, RefusalTests::empty, x -> x.score(0, false));
        refused("no tests", ARITHMETIC, () -> made(0, 47, 100), x -> x.score(0, true));
        refused("all are like by one form", ARITHMETIC, RefusalTests::likeAlone, x -> x.score(1, false));
        refused("none of them is killed", ARITHMETIC, RefusalTests::likeAlone, x -> x.score(1, true));
    }

    // 1 less 1 less 1 .. : the mutant "u" of the negative of 0 is the only one.
    private static Mutagenry likeAlone() {
        Mutagenry works = made(0, 47, 20, 100);
        for (char operator : "carlvns".toCharArray()) {
            works.setOperator(operator, false);
        }
        works.addTest(0, 0);
        return works;
    }

    private static void orderAtNone() {
        says("orderAt: Throws NoSuchElementException if there is no such test");
        for (int index : new int[] {-1, 3, 16, LEAST, GREATEST}) {
            refused("index " + index, NONE, x -> x.orderAt(index));
        }
        refused("of none", NONE, RefusalTests::empty, x -> x.orderAt(0));
        due("15 of 16", answerOf(sixteenTests(), x -> x.orderAt(15)) instanceof Integer, true);
        refused("16 of 16", NONE, RefusalTests::sixteenTests, x -> x.orderAt(16));
        due("without mutants", answerOf(noMutants(), x -> x.orderAt(2)), 2);
    }

    private static void noPair() {
        says("pairKills, masked, isHarder: Throws UnsupportedOperationException if they are no pair");
        int[][] pairs = {{1, 1}, {1, 2}, {2, 1}, {0, 1}, {1, 0}, {0, 14 - 9}, {10, 14}, {14, 10}, {13, 14}};
        for (int[] pair : pairs) {
            String what = pair[0] + " and " + pair[1];
            refused("pairKills of " + what, UNSUPPORTED, x -> x.pairKills(pair[0], pair[1]));
            refused("masked of " + what, UNSUPPORTED, x -> x.masked(pair[0], pair[1]));
            refused("isHarder of " + what, UNSUPPORTED, x -> x.isHarder(pair[0], pair[1]));
        }
        allowed("side by side", Integer.class, x -> ((Object) x.pairKills(4, 5)).getClass());
        allowed("behind each other", Integer.class, x -> ((Object) x.masked(1, 6)).getClass());
        allowed("of two functions", Boolean.class, x -> ((Object) x.isHarder(0, 10)).getClass());
    }

    // ------------------------------------------------------------------ inputs

    private static void killingRefused() {
        says("killing: Throws IndexOutOfBoundsException if there is no such mutant or function");
        for (int function : new int[] {-1, 2, LEAST, GREATEST}) {
            refused("function " + function, INDEX, x -> x.killing(0, function));
        }
        refused("of none", INDEX, RefusalTests::empty, x -> x.killing(0, 0));
        says("killing: Throws NoSuchElementException if there are none");
        refused("a function that does not come there", NONE, x -> x.killing(14, 0));
        refused("one that is like", NONE, RefusalTests::likeAlone, x -> x.killing(0, 0));
        allowed("by the other function", number(-8, 0, 0), x -> x.killing(14, 1));
    }

    private static void farRefused() {
        says("far: Throws IndexOutOfBoundsException if there is no such function or place");
        for (int wrong : new int[] {-1, 2, LEAST, GREATEST}) {
            refused("function " + wrong, INDEX, x -> x.far(wrong, 0, 1, true));
        }
        for (int wrong : new int[] {-1, 12, LEAST, GREATEST}) {
            refused("place " + wrong, INDEX, x -> x.far(0, 0, wrong, true));
        }
        allowed("the last place", 0, x -> x.far(1, 0, 11, true));
        says("far: Throws IllegalArgumentException if the arguments are less than 0 or greater than 4095");
        for (int wrong : new int[] {-1, 4096, LEAST, GREATEST}) {
            refused("arguments " + wrong, ARGUMENT, x -> x.far(0, wrong, 1, true));
        }
        allowed("0", 1, x -> x.far(0, 0, 1, true));
        allowed("4095", 1, x -> x.far(0, 4095, 1, true));
        says("far: Throws UnsupportedOperationException if there is a statement at the place");
        for (int place : new int[] {0, 4, 6, 8}) {
            refused("place " + place, UNSUPPORTED, x -> x.far(0, 0, place, false));
        }
    }

    private static void climbRefused() {
        says("climb: Throws IndexOutOfBoundsException if there is no such function or place");
        for (int wrong : new int[] {-1, 2, LEAST, GREATEST}) {
            refused("function " + wrong, INDEX, x -> x.climb(wrong, 1, true));
        }
        for (int wrong : new int[] {-1, 12, LEAST, GREATEST}) {
            refused("place " + wrong, INDEX, x -> x.climb(0, wrong, true));
        }
        allowed("the last place", number(0, 0, 0), x -> x.climb(1, 11, true));
        says("climb: Throws UnsupportedOperationException if there is a statement at the place");
        for (int place : new int[] {0, 4, 6, 8}) {
            refused("place " + place, UNSUPPORTED, x -> x.climb(0, place, true));
        }
        says("climb: Throws NoSuchElementException if the distance is not 0 there");
        refused("of a number", NONE, x -> x.climb(1, 11, false));
        refused("of another function", NONE, x -> x.climb(0, 11, true));
        refused("of no parameters", NONE, () -> made(0, 47, 100), x -> x.climb(0, 1, true));
        due("of no parameters, so", answerOf(made(0, 47, 101), x -> x.climb(0, 1, true)), number(0, 0, 0));
    }

    // ------------------------------------------------------------------ oracles and samples

    private static void addOracleRefused() {
        says("addOracle: Throws IllegalArgumentException if there is no such kind");
        for (char kind : new char[] {0, 'a', 'b', 'e', 'o', 'q', 'y', '{', 'P', 'Z', 65535}) {
            refused("kind " + (int) kind, ARGUMENT, x -> x.addOracle(kind, 0, 0));
        }
        says("addOracle: Throws IndexOutOfBoundsException if there is no such function, or peer for d");
        for (char kind : "pzcd".toCharArray()) {
            for (int function : new int[] {-1, 2, LEAST, GREATEST}) {
                refused(kind + " for " + function, INDEX, x -> x.addOracle(kind, function, 0));
                Object answer = kind == 'd' ? INDEX : (Object) 2;
                allowed(kind + " with " + function, answer, x -> x.addOracle(kind, 0, function));
            }
        }
        refused("d, no peer", INDEX, x -> x.addOracle('d', 0, 2));
        says("addOracle: Throws UnsupportedOperationException if it has fewer than 2 parameters for c");
        refused("of 1", UNSUPPORTED, x -> x.addOracle('c', 1, 1));
        for (int parameters = 0; parameters <= 3; parameters++) {
            Object answer = parameters < 2 ? UNSUPPORTED : (Object) 0;
            due("of " + parameters, answerOf(made(parameters, 47, 100), x -> x.addOracle('c', 0, 0)), answer);
        }
        says("addOracle: Throws UnsupportedOperationException if it has not as many as the peer for d");
        refused("2 and 1", UNSUPPORTED, x -> x.addOracle('d', 0, 1));
        refused("1 and 2", UNSUPPORTED, x -> x.addOracle('d', 1, 0));
        refused("3 and 2", UNSUPPORTED, RefusalTests::fourFunctions, x -> x.addOracle('d', 3, 0));
        refused("0 and 1", UNSUPPORTED, RefusalTests::fourFunctions, x -> x.addOracle('d', 2, 1));
        allowed("2 and 2", 2, x -> x.addOracle('d', 0, 0));
        ninthOracle();
    }

    private static void ninthOracle() {
        says("addOracle: Throws IllegalStateException if there are 8 oracles");
        for (char kind : "pzcd".toCharArray()) {
            refused("a ninth one, " + kind, STATE, RefusalTests::eightOracles, x -> x.addOracle(kind, 0, 0));
        }
        Mutagenry works = ordinary();
        for (int i = 2; i < 8; i++) {
            due("oracle " + i, answerOf(works, x -> x.addOracle('p', 0, 0)), i);
        }
        due("a ninth one", answerOf(works, x -> x.addOracle('p', 0, 0)), STATE);
    }

    private static void oraclesOutOfRange() {
        says("holds, oracleKills: Throws IndexOutOfBoundsException if there is no such oracle");
        for (int oracle : new int[] {-1, 2, 8, LEAST, GREATEST}) {
            refused("holds " + oracle, INDEX, x -> x.holds(oracle));
            refused("oracleKills " + oracle, INDEX, x -> x.oracleKills(oracle, 0));
        }
        allowed("holds 1", 1, x -> x.holds(1));
        refused("holds of none", INDEX, RefusalTests::empty, x -> x.holds(0));
        refused("holds 8 of 8", INDEX, RefusalTests::eightOracles, x -> x.holds(8));
        due("holds 7 of 8", answerOf(eightOracles(), x -> x.holds(7)), 1);
    }

    private static void samplesOutOfRange() {
        says("sample, bound: Throws IllegalArgumentException if it has less than 1, or more than there are");
        for (int many : new int[] {0, -1, 16, LEAST, GREATEST}) {
            refused("sample of " + many, ARGUMENT, x -> x.sample(1, many));
            refused("bound of " + many, ARGUMENT, x -> x.bound(1, many));
        }
        refused("sample of none", ARGUMENT, RefusalTests::noMutants, x -> x.sample(0, 1));
        refused("bound of none", ARGUMENT, RefusalTests::noMutants, x -> x.bound(0, 1));
        refused("sample of a new object", ARGUMENT, RefusalTests::empty, x -> x.sample(0, 0));
        allowed("sample of all", 14, x -> x.sample(LEAST, 15));
        allowed("bound of all", 14, x -> x.bound(GREATEST, 15));
        allowed("sample of 1", Integer.class, x -> ((Object) x.sample(GREATEST, 1)).getClass());
    }

    private static Mutagenry sets(int many) {
        Mutagenry works = new Mutagenry();
        for (int left = many; left > 0; left -= 25) {
            int[] row = new int[left > 25 ? 77 : 3 * left + 2];
            row[0] = 45;
            for (int i = 1; i < row.length - 1; i += 3) {
                row[i] = 40;
                row[i + 2] = 100;
            }
            row[row.length - 1] = 46;
            add(works, 0, row);
        }
        for (char operator : "carluvn".toCharArray()) {
            works.setOperator(operator, false);
        }
        return works;
    }

    private static void boundOfMoreThanFifty() {
        says("bound: Throws UnsupportedOperationException if there are more than 50 mutants");
        due("51", sets(51).mutants(), 51);
        refused("1 of 51", UNSUPPORTED, () -> sets(51), x -> x.bound(0, 1));
        refused("51 of 51", UNSUPPORTED, () -> sets(51), x -> x.bound(0, 51));
        due("1 of 50", answerOf(sets(50), x -> x.bound(0, 1)), 0);
        due("50 of 50", answerOf(sets(50), x -> x.bound(0, 50)), 0);
        due("a sample of 51", answerOf(sets(51), x -> x.sample(0, 51)), 0);
    }

    private static void meanOfNone() {
        says("meanKills: Throws ArithmeticException if there are none");
        refused("no mutants", ARITHMETIC, RefusalTests::noMutants, x -> x.meanKills());
        refused("a new object", ARITHMETIC, RefusalTests::empty, x -> x.meanKills());
        due("no tests", answerOf(made(0, 47, 100), x -> x.meanKills()), 0.0);
    }

    // ------------------------------------------------------------------ several exceptions

    private static void firstListedIsThrown() {
        says("If several exceptions apply, the one that is listed first is thrown");
        refused("type", ARGUMENT, RefusalTests::fullRow, x -> x.type(108));
        refused("define, row", ARGUMENT, x -> x.define(4));
        refused("define, row and functions", ARGUMENT, RefusalTests::fourFunctions, x -> x.define(-1));
        refused("define, right row", ARGUMENT, () -> fourWith(47, 100), x -> x.define(4));
        refused("define, functions", UNSUPPORTED, RefusalTests::fourFunctions, x -> x.define(0));
        refused("change", INDEX, x -> x.change(2));
        refused("outcome", INDEX, x -> x.outcome(2, 4096));
        refused("steps", INDEX, x -> x.steps(-1, -1));
        refused("addTest, arguments", INDEX, x -> x.addTest(2, -1));
        refused("addTest, all", INDEX, RefusalTests::sixteenTests, x -> x.addTest(2, -1));
        refused("addTest, tests", INDEX, RefusalTests::sixteenTests, x -> x.addTest(2, 0));
        refused("addTest, arguments and tests", ARGUMENT, RefusalTests::sixteenTests, x -> x.addTest(0, 4096));
        refused("score", ARGUMENT, RefusalTests::noMutants, x -> x.score(8, false));
        refused("score of least kills", ARGUMENT, RefusalTests::empty, x -> x.score(1, true));
        refused("pairKills", INDEX, x -> x.pairKills(15, 15));
        refused("masked", INDEX, x -> x.masked(-1, -1));
        refused("isHarder", INDEX, x -> x.isHarder(15, 15));
        refused("killing", INDEX, RefusalTests::likeAlone, x -> x.killing(0, 1));
        refused("far, arguments", INDEX, x -> x.far(2, 4096, 0, true));
        refused("far, place and arguments", INDEX, x -> x.far(0, 4096, 12, true));
        refused("far, arguments and statement", ARGUMENT, x -> x.far(0, 4096, 0, true));
        refused("far, function and statement", INDEX, x -> x.far(2, 0, 0, true));
        refused("climb, function and statement", INDEX, x -> x.climb(2, 0, true));
        refused("climb, statement and distance", UNSUPPORTED, x -> x.climb(0, 8, true));
        refused("addOracle, kind", ARGUMENT, RefusalTests::eightOracles, x -> x.addOracle('x', 9, 9));
        refused("addOracle, function", INDEX, RefusalTests::eightOracles, x -> x.addOracle('c', 2, 0));
        refused("addOracle, peer", INDEX, RefusalTests::eightOracles, x -> x.addOracle('d', 0, 2));
        refused("addOracle, parameters", UNSUPPORTED, RefusalTests::eightOracles, x -> x.addOracle('c', 1, 0));
        refused("addOracle, parameters of d", UNSUPPORTED, RefusalTests::eightOracles, x -> x.addOracle('d', 0, 1));
        refused("bound", ARGUMENT, () -> sets(51), x -> x.bound(0, 52));
        refused("bound of 0", ARGUMENT, () -> sets(51), x -> x.bound(0, 0));
    }
}
