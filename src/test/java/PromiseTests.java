import java.util.NoSuchElementException;
import java.util.function.Supplier;

/** For each promise of the document: ordinary inputs, the edges that it names, and wrong inputs. */
public final class PromiseTests {
    private static int passed;
    private static int failed;
    private static int promise;

    private static final Class<?> ARGUMENT = IllegalArgumentException.class;
    private static final Class<?> STATE = IllegalStateException.class;
    private static final Class<?> INDEX = IndexOutOfBoundsException.class;
    private static final Class<?> UNSUPPORTED = UnsupportedOperationException.class;
    private static final Class<?> ARITHMETIC = ArithmeticException.class;
    private static final Class<?> NONE = NoSuchElementException.class;

    public static void main(String[] args) {
        newObject();
        type();
        erase();
        wrongAt();
        define();
        change();
        places();
        wordOf();
        outcome();
        steps();
        setLimit();
        setOperator();
        setFunction();
        mutants();
        placeOf();
        operatorOf();
        mutatedWord();
        addTest();
        expected();
        told();
        alone();
        kills();
        runs();
        isLike();
        isSubsumed();
        minimals();
        minimalAt();
        score();
        orderAt();
        leastSet();
        covers();
        ways();
        pairKills();
        masked();
        isHarder();
        killing();
        far();
        climb();
        after();
        leans();
        prediction();
        counted();
        addOracle();
        holds();
        oracleKills();
        sample();
        bound();
        functions();
        tests();
        changes();
        meanKills();
        isSound();
        System.out.println("promises: " + passed + " checks passed, " + failed + " failed");
        if (failed != 0) {
            System.exit(1);
        }
    }

    // ------------------------------------------------------------------ helpers

    private static void due(String what, Object got, Object want) {
        if (got.equals(want)) {
            passed++;
        } else {
            failed++;
            System.out.println("promise " + promise + ": " + what + " answered " + got + ", due is " + want);
        }
    }

    private static void fails(String what, Class<?> want, Supplier<Object> call) {
        Object got;
        try {
            got = call.get();
        } catch (RuntimeException e) {
            got = e.getClass();
        }
        due(what, got, want);
    }

    private static void type(Mutagenry works, int... words) {
        for (int word : words) {
            works.type(word);
        }
    }

    private static Mutagenry made(int parameters, int... words) {
        Mutagenry works = new Mutagenry();
        add(works, parameters, words);
        return works;
    }

    private static int add(Mutagenry works, int parameters, int... words) {
        works.erase();
        type(works, words);
        return works.define(parameters);
    }

    private static int change(Mutagenry works, int function, int... words) {
        works.erase();
        type(works, words);
        return works.change(function);
    }

    private static int number(int first, int second, int third) {
        return 256 * (first + 8) + 16 * (second + 8) + third + 8;
    }

    private static int given(int first) {
        return number(first, 0, 0);
    }

    /** What an expression of no parameters gives. */
    private static int valueOf(int... expression) {
        return made(0, returning(expression)).outcome(0, 0);
    }

    private static int[] returning(int... expression) {
        int[] words = new int[expression.length + 1];
        words[0] = 47;
        System.arraycopy(expression, 0, words, 1, expression.length);
        return words;
    }

    private static int wrong(int parameters, int... words) {
        Mutagenry works = new Mutagenry();
        type(works, words);
        return works.wrongAt(parameters);
    }

    /** The mutants as a text: place, operator and word of each. */
    private static String listed(Mutagenry works) {
        StringBuilder text = new StringBuilder();
        for (int i = 0; i < works.mutants(); i++) {
            text.append(i == 0 ? "" : " ").append(works.placeOf(i)).append(works.operatorOf(i))
                    .append(works.mutatedWord(i));
        }
        return text.toString();
    }

    private static void only(Mutagenry works, String operators) {
        for (char operator : "carluvns".toCharArray()) {
            works.setOperator(operator, operators.indexOf(operator) >= 0);
        }
    }

    private static String toldAll(Mutagenry works, int test) {
        StringBuilder text = new StringBuilder();
        for (int i = 0; i < works.mutants(); i++) {
            text.append(works.told(i, test));
        }
        return text.toString();
    }

    // ------------------------------------------------------------------ the promises

    private static void newObject() {
        promise = 1;
        Mutagenry works = new Mutagenry();
        due("functions()", works.functions(), 0);
        due("tests()", works.tests(), 0);
        due("places()", works.places(), 0);
        due("mutants()", works.mutants(), 0);
        due("changes()", works.changes(), 0);
        due("erase()", works.erase(), 0);
        due("runs()", works.runs(), 0L);
        due("ways()", works.ways(), 0);
        due("minimals()", works.minimals(), 0);
        due("leastSet(true)", works.leastSet(true), 0);
        due("leastSet(false)", works.leastSet(false), 0);
        due("isSound()", works.isSound(), true);
        due("setLimit(10)", works.setLimit(10), 200);
        due("setOperator('c', true)", works.setOperator('c', true), true);
        due("counted('c', false)", works.counted('c', false), 0);
        fails("holds(0)", INDEX, () -> works.holds(0));
        fails("outcome(0, 0)", INDEX, () -> works.outcome(0, 0));
        fails("expected(0)", INDEX, () -> works.expected(0));
        due("addOracle of another object", new Mutagenry().functions(), 0);
    }

    private static void type() {
        promise = 2;
        Mutagenry works = new Mutagenry();
        due("type(0)", works.type(0), 1);
        due("type(107)", works.type(107), 2);
        due("a word that fits nowhere", works.type(50), 3);
        fails("type(-1)", ARGUMENT, () -> works.type(-1));
        fails("type(108)", ARGUMENT, () -> works.type(108));
        fails("type(least)", ARGUMENT, () -> works.type(Integer.MIN_VALUE));
        due("type behind a wrong one", works.type(46), 4);
        for (int i = 5; i <= 90; i++) {
            due("type " + i, works.type(i), i);
        }
        fails("the 91st", STATE, () -> works.type(0));
        fails("the 91st, out of range", ARGUMENT, () -> works.type(108));
        due("erase behind both", works.erase(), 90);
        due("type behind erase", works.type(1), 1);
    }

    private static void erase() {
        promise = 3;
        Mutagenry works = new Mutagenry();
        due("empty", works.erase(), 0);
        type(works, 47, 100, 3);
        due("three", works.erase(), 3);
        due("none again", works.erase(), 0);
        due("nothing is left", works.wrongAt(0), 0);
        due("type is first again", works.type(47), 1);
        add(works, 0, 47, 100);
        due("empty behind define", works.erase(), 0);
        due("the function stays", works.functions(), 1);
    }

    private static void wrongAt() {
        promise = 4;
        due("empty row", wrong(0), 0);
        due("return of a number", wrong(0, 47, 100), -1);
        due("something lacks", wrong(0, 47), 1);
        due("a part lacks", wrong(0, 47, 10, 0), 3);
        due("one word more", wrong(0, 47, 100, 100), 2);
        due("no statement", wrong(0, 100), 0);
        due("46 without 45", wrong(0, 46), 0);
        due("empty list", wrong(0, 45, 46), -1);
        due("list without end", wrong(0, 45, 40, 0, 100), 4);
        due("two behind the list", wrong(0, 45, 46, 46), 2);
        due("set of a variable", wrong(0, 40, 7, 0), -1);
        due("set of 8", wrong(0, 40, 8, 0), 1);
        due("cell", wrong(0, 41, 100, 101), -1);
        due("if", wrong(0, 42, 0, 47, 0), -1);
        due("if without statement", wrong(0, 42, 0), 2);
        due("if and an expression", wrong(0, 42, 0, 0), 2);
        due("two ways", wrong(0, 43, 0, 47, 0, 47, 1), -1);
        due("one way of two", wrong(0, 43, 0, 47, 0), 4);
        due("loop", wrong(0, 44, 0, 45, 46), -1);
        due("throw", wrong(0, 48, 92), -1);
        due("catch", wrong(0, 49, 48, 0, 7, 47, 7), -1);
        due("catch into 8", wrong(0, 49, 48, 0, 8, 47, 7), 3);
        due("catch into a number", wrong(0, 49, 48, 0, 100, 47, 7), 3);
        due("hidden", wrong(0, 51, 3, 24, 3), -1);
        due("hidden 4", wrong(0, 51, 4, 0), 1);
        due("read of hidden 4", wrong(0, 47, 24, 4), 2);
        due("read of hidden lacks", wrong(0, 47, 24), 2);
        due("both kinds of one part", wrong(0, 47, 20, 21, 22, 0), -1);
        due("107", wrong(0, 47, 107), -1);
        due("92", wrong(0, 47, 92), -1);
        for (int word : new int[] {8, 9, 23, 25, 29, 31, 34, 39, 40, 46, 50, 52, 91}) {
            due("no expression: " + word, wrong(0, 47, word), 1);
        }
        for (int word : new int[] {0, 8, 10, 24, 30, 39, 50, 52, 91, 92, 107}) {
            due("no statement: " + word, wrong(0, 45, word), 1);
        }
        due("own call of none", wrong(0, 47, 30), -1);
        due("own call of one, lacking", wrong(1, 47, 30), 2);
        due("own call of three", wrong(3, 47, 30, 0, 1, 2), -1);
        due("own call of three, too many", wrong(2, 47, 30, 0, 1, 2), 4);
        Mutagenry works = made(2, 47, 0);
        type(works, 47, 30, 0, 31, 1);
        due("call of another one and own", works.wrongAt(1), -1);
        due("the same row of three", works.wrongAt(3), 5);
        due("nothing is changed", works.functions(), 1);
        fails("-1 parameters", ARGUMENT, () -> works.wrongAt(-1));
        fails("4 parameters", ARGUMENT, () -> works.wrongAt(4));
        due("then", works.wrongAt(1), -1);
        for (int i = 0; i < 3; i++) {
            add(works, 0, 47, 100);
        }
        type(works, 47, 33);
        due("call of the last of four", works.wrongAt(0), -1);
        works.type(33);
        due("more", works.wrongAt(0), 2);
        works.erase();
        type(works, 47, 34);
        due("there is no fifth", works.wrongAt(0), 1);
    }

    private static void define() {
        promise = 5;
        Mutagenry works = new Mutagenry();
        type(works, 47, 10, 0, 2);
        fails("-1", ARGUMENT, () -> works.define(-1));
        fails("4", ARGUMENT, () -> works.define(4));
        due("first", works.define(3), 0);
        due("the row is empty", works.erase(), 0);
        fails("an empty row", UNSUPPORTED, () -> works.define(0));
        fails("an empty row, 4", ARGUMENT, () -> works.define(4));
        due("sum", works.outcome(0, number(2, 7, 3)), 5);
        type(works, 47);
        fails("a row that lacks", UNSUPPORTED, () -> works.define(0));
        due("it stays", works.erase(), 1);
        due("calls itself", add(works, 1, 45, 42, 21, 0, 47, 105, 47, 31, 11, 0, 101, 46), 1);
        due("from 3", works.outcome(1, given(3)), 5);
        due("none", add(works, 0, 45, 46), 2);
        due("no return gives 0", works.outcome(2, 0), 0);
        due("calls others", add(works, 2, 47, 10, 31, 0, 30, 1, 1, 101), 3);
        due("them", works.outcome(3, number(0, 1, 0)), 7);
        type(works, 47, 100);
        fails("a fifth one", STATE, () -> works.define(0));
        fails("a fifth one of 4", ARGUMENT, () -> works.define(4));
        due("its row stays", works.type(100), 3);
        fails("a fifth wrong one", UNSUPPORTED, () -> works.define(0));
        due("functions()", works.functions(), 4);
    }

    private static void change() {
        promise = 6;
        Mutagenry works = made(2, 47, 10, 0, 1);
        add(works, 1, 47, 30, 0, 101);
        type(works, 47, 11, 0, 1);
        due("first", works.change(0), 1);
        due("the row is empty", works.erase(), 0);
        due("now less", works.outcome(0, number(5, 3, 0)), 2);
        due("through a call", works.outcome(1, given(5)), 4);
        fails("an empty row", UNSUPPORTED, () -> works.change(0));
        type(works, 47, 30, 0, 1);
        due("by another one and itself", works.wrongAt(1), -1);
        fails("no function 2", INDEX, () -> works.change(2));
        fails("no function -1", INDEX, () -> works.change(-1));
        due("one that calls itself", works.change(1), 2);
        due("no such function, ahead of the row", thrownBy(() -> works.change(9)), INDEX);
        type(works, 47, 32);
        fails("a function that is not there", UNSUPPORTED, () -> works.change(1));
        due("its row stays", works.erase(), 2);
        type(works, 47, 31, 100, 46);
        fails("a word too many", UNSUPPORTED, () -> works.change(1));
        works.erase();
        type(works, 45, 42, 0, 45, 51, 0, 100, 47, 31, 11, 0, 101, 46, 47, 107, 46);
        due("one that calls itself by its number", works.change(1), 3);
        due("it runs", works.outcome(1, given(4)), 7);
        due("changes()", works.changes(), 3);
        due("mutants are those of the new one", works.placeOf(works.mutants() - 1), works.places() - 1);
        due("an old test has the new outcome", oldTest(), 1);
    }

    private static int oldTest() {
        Mutagenry works = made(1, 47, 0);
        works.addTest(0, given(3));
        works.expected(0);
        change(works, 0, 47, 101);
        return works.expected(0);
    }

    private static Object thrownBy(Supplier<Object> call) {
        try {
            return call.get();
        } catch (RuntimeException e) {
            return e.getClass();
        }
    }

    private static void places() {
        promise = 7;
        Mutagenry works = made(1, 40, 3, 24, 2);
        due("a statement and an expression", works.places(), 2);
        add(works, 1, 45, 49, 48, 0, 3, 45, 46, 47, 30, 10, 0, 101, 46);
        due("both", works.places(), 2 + 10);
        change(works, 0, 47, 100);
        due("behind a change", works.places(), 2 + 10);
        change(works, 1, 45, 46);
        due("a list alone", works.places(), 3);
    }

    private static void wordOf() {
        promise = 8;
        Mutagenry works = made(1, 45, 40, 3, 24, 2, 46);
        add(works, 0, 51, 1, 22, 107);
        int[] words = {45, 40, 24, 51, 22, 107};
        for (int i = 0; i < 6; i++) {
            due("wordOf(" + i + ")", works.wordOf(i), words[i]);
        }
        fails("wordOf(-1)", INDEX, () -> works.wordOf(-1));
        fails("wordOf(6)", INDEX, () -> works.wordOf(6));
        fails("wordOf(greatest)", INDEX, () -> works.wordOf(Integer.MAX_VALUE));
        fails("of none", INDEX, () -> new Mutagenry().wordOf(0));
    }

    private static void outcome() {
        promise = 9;
        expressions();
        statements();
        calls();
        Mutagenry works = made(2, 47, 10, 0, 12, 2, 101);
        due("arguments", works.outcome(0, number(3, 4, 5)), 3);
        due("a third one is not taken", works.outcome(0, number(-8, -8, 7)), -8);
        due("0", works.outcome(0, 0), -8);
        due("4095", works.outcome(0, 4095), 7);
        fails("-1", ARGUMENT, () -> works.outcome(0, -1));
        fails("4096", ARGUMENT, () -> works.outcome(0, 4096));
        fails("no function 1", INDEX, () -> works.outcome(1, 0));
        fails("no function, wrong arguments", INDEX, () -> works.outcome(-1, -1));
        due("order of parameters", made(3, 47, 11, 0, 11, 1, 2).outcome(0, number(1, 5, 2)), -2);
        due("hidden ones begin with 0", twice(made(0, 45, 51, 2, 10, 24, 2, 101, 47, 24, 2, 46)), 1);
    }

    private static int twice(Mutagenry works) {
        works.outcome(0, 0);
        return works.outcome(0, 0);
    }

    private static void expressions() {
        due("number 107", valueOf(107), 7);
        due("number 92", valueOf(92), -8);
        due("sum goes round", valueOf(10, 107, 101), -8);
        due("difference goes round", valueOf(11, 92, 101), 7);
        due("product goes round", valueOf(12, 107, 107), 1);
        due("product", valueOf(12, 97, 98), 6);
        due("quotient toward 0", valueOf(13, 93, 102), -3);
        due("quotient toward 0, both", valueOf(13, 107, 98), -3);
        due("quotient that goes round", valueOf(13, 92, 99), -8);
        due("quotient by 0", valueOf(13, 100, 100), 101);
        int[][] same = {{14, 0}, {15, 1}, {16, 1}, {17, 0}};
        int[][] less = {{14, 1}, {15, 1}, {16, 0}, {17, 1}};
        int[][] more = {{14, 0}, {15, 0}, {16, 0}, {17, 1}};
        for (int i = 0; i < 4; i++) {
            due("same " + same[i][0], valueOf(same[i][0], 95, 95), same[i][1]);
            due("less " + less[i][0], valueOf(less[i][0], 95, 104), less[i][1]);
            due("more " + more[i][0], valueOf(more[i][0], 104, 95), more[i][1]);
        }
        due("both", valueOf(18, 102, 93), 1);
        due("not both", valueOf(18, 102, 100), 0);
        due("any", valueOf(19, 100, 93), 1);
        due("none", valueOf(19, 100, 100), 0);
        due("both are found though the first is 0", valueOf(18, 100, 13, 101, 100), 101);
        due("both are found though the first is not 0", valueOf(19, 101, 13, 101, 100), 101);
        due("negative", valueOf(20, 103), -3);
        due("negative goes round", valueOf(20, 92), -8);
        due("is 0", valueOf(21, 100), 1);
        due("is not 0", valueOf(21, 99), 0);
        due("cell is 0", valueOf(22, 103), 0);
        due("cell 4", valueOf(22, 104), 102);
        due("cell -1", valueOf(22, 99), 102);
        due("hidden is 0", valueOf(24, 3), 0);
        due("variable is 0", valueOf(7), 0);
        due("the first throws first", valueOf(10, 22, 99, 13, 101, 100), 102);
    }

    private static void statements() {
        due("set", made(0, 45, 40, 7, 103, 47, 7, 46).outcome(0, 0), 3);
        due("set of a parameter", made(1, 45, 40, 0, 10, 0, 101, 47, 0, 46).outcome(0, given(2)), 3);
        due("cell", made(0, 45, 41, 103, 105, 47, 22, 103, 46).outcome(0, 0), 5);
        due("cell 4 is thrown", made(0, 41, 104, 100).outcome(0, 0), 102);
        due("cell -1 is thrown, behind the second", made(0, 41, 99, 13, 101, 100).outcome(0, 0), 101);
        Mutagenry is = made(1, 45, 42, 0, 47, 103, 47, 104, 46);
        due("if so", is.outcome(0, given(-1)), 3);
        due("if not so", is.outcome(0, given(0)), 4);
        Mutagenry ways = made(1, 43, 0, 47, 103, 47, 104);
        due("first way", ways.outcome(0, given(5)), 3);
        due("second way", ways.outcome(0, given(0)), 4);
        Mutagenry loop = made(1, 45, 44, 0, 45, 40, 1, 10, 1, 102, 40, 0, 11, 0, 101, 46, 47, 1, 46);
        due("three rounds", loop.outcome(0, given(3)), 6);
        due("no round", loop.outcome(0, given(0)), 0);
        due("without end", made(0, 44, 101, 45, 46).outcome(0, 0), 999);
        due("return out of a loop", made(0, 44, 101, 47, 106).outcome(0, 0), 6);
        due("behind a return", made(0, 45, 47, 101, 48, 102, 46).outcome(0, 0), 1);
        due("thrown", made(0, 48, 103).outcome(0, 0), 103);
        due("thrown less than 0", made(0, 48, 92).outcome(0, 0), 92);
        due("thrown 7", made(0, 48, 107).outcome(0, 0), 107);
        due("caught", made(0, 49, 48, 93, 2, 47, 2).outcome(0, 0), -7);
        due("quotient caught", made(0, 49, 40, 0, 13, 101, 100, 2, 47, 10, 2, 104).outcome(0, 0), 5);
        due("cell caught", made(0, 49, 41, 107, 101, 2, 47, 10, 2, 104).outcome(0, 0), 6);
        due("nothing to catch", made(0, 45, 49, 45, 46, 2, 47, 101, 47, 102, 46).outcome(0, 0), 2);
        due("thrown by the second one", made(0, 49, 48, 101, 2, 48, 10, 2, 101).outcome(0, 0), 102);
        due("caught outside", made(0, 49, 49, 48, 101, 2, 48, 10, 2, 101, 3, 47, 10, 3, 103).outcome(0, 0), 5);
        due("return is not caught", made(0, 49, 47, 101, 2, 47, 102).outcome(0, 0), 1);
        due("the limit is not caught", made(0, 49, 44, 101, 45, 46, 2, 47, 102).outcome(0, 0), 999);
        due("hidden", made(0, 45, 51, 3, 106, 47, 24, 3, 46).outcome(0, 0), 6);
        due("what was set ahead of a throw stays", made(0, 45, 49, 45, 40, 1, 103, 48, 100, 46, 2, 45, 46, 47, 1, 46)
                .outcome(0, 0), 3);
        due("caught 7 times, with 25 values that are given up each time", made(0, manyCaught()).outcome(0, 0), 5);
        due("caught within an expression that is given up",
                made(0, 45, 49, 40, 1, 10, 105, 13, 101, 100, 2, 45, 46, 47, 10, 1, 2, 46).outcome(0, 0), 1);
    }

    // Each call gives 42 more than the one in it; the twelfth one catches what a thirteenth one would throw.
    private static int[] sums(boolean isFirst) {
        int[] words = new int[90];
        words[0] = 49;
        words[1] = 47;
        for (int i = 0; i < 42; i++) {
            words[2 + (isFirst ? i : 2 * i)] = 10;
            words[isFirst ? 45 + i : 3 + 2 * i] = 101;
        }
        words[isFirst ? 44 : 86] = 30;
        words[87] = 1;
        words[88] = 47;
        words[89] = 100;
        return words;
    }

    private static int[] manyCaught() {
        int[] words = new int[75];
        System.arraycopy(new int[] {45, 40, 0, 107, 44, 0, 45, 40, 0, 11, 0, 101, 49, 40, 2}, 0, words, 0, 15);
        for (int i = 15; i < 65; i += 2) {
            words[i] = 10;
            words[i + 1] = 105;
        }
        System.arraycopy(new int[] {13, 101, 100, 3, 45, 46, 46, 47, 105, 46}, 0, words, 65, 10);
        return words;
    }

    private static void calls() {
        Mutagenry works = made(3, 47, 11, 0, 11, 1, 2);
        add(works, 1, 47, 30, 0, 103, 101);
        due("arguments in their order", works.outcome(1, given(5)), 3);
        add(works, 1, 45, 40, 1, 106, 41, 100, 105, 40, 2, 30, 100, 101, 102, 47, 10, 1, 22, 100, 46);
        due("own variables and cells", works.outcome(2, 0), -5);
        Mutagenry hidden = made(0, 45, 51, 1, 10, 24, 1, 101, 46);
        add(hidden, 0, 45, 40, 0, 10, 30, 30, 47, 24, 1, 46);
        due("hidden ones are shared", hidden.outcome(1, 0), 2);
        Mutagenry thrower = made(0, 48, 104);
        add(thrower, 0, 49, 47, 30, 5, 47, 10, 5, 101);
        due("thrown through a call", thrower.outcome(1, 0), 5);
        due("without end it throws 3", made(0, 47, 30).outcome(0, 0), 103);
        Mutagenry deep = made(1, 43, 0, 47, 30, 11, 0, 101, 47, 107);
        due("8 calls", deep.outcome(0, given(7)), 7);
        Mutagenry deeper = made(2, 43, 10, 0, 1, 43, 0, 47, 30, 11, 0, 101, 1, 47, 30, 0, 11, 1, 101, 47, 107);
        due("12 calls", deeper.outcome(0, number(7, 4, 0)), 7);
        due("13 calls", deeper.outcome(0, number(7, 5, 0)), 103);
        Mutagenry caught = made(0, 45, 51, 0, 10, 24, 0, 101, 49, 47, 30, 0, 47, 24, 0, 46);
        due("the 12th catches it", caught.outcome(0, 0), -4);
        due("12 calls of 42 sums, the call first", made(0, sums(true)).outcome(0, 0), -2);
        due("12 calls of 42 sums, the call last", made(0, sums(false)).outcome(0, 0), -2);
        Mutagenry wide = made(0, sums(true));
        wide.addTest(0, 0);
        due("their mutants", wide.isSound(), true);
        due("a mutant of the innermost sum", wide.told(44 * 3 - 9, 0), 'k');
        Mutagenry argument = made(1, 47, 100);
        add(argument, 0, 47, 30, 13, 101, 100);
        due("an argument throws", argument.outcome(1, 0), 101);
    }

    private static int stepsOf(int... words) {
        return made(1, words).steps(0, given(3));
    }

    private static void steps() {
        promise = 10;
        due("one", stepsOf(47, 100), 1);
        due("an empty list", stepsOf(45, 46), 1);
        due("a list", stepsOf(45, 40, 1, 100, 41, 100, 100, 46), 3);
        due("behind a return", stepsOf(45, 47, 100, 47, 100, 46), 2);
        due("if so", stepsOf(42, 0, 45, 46), 2);
        due("if not so", stepsOf(42, 100, 45, 46), 1);
        due("two ways", stepsOf(43, 100, 45, 46, 45, 45, 46, 46), 3);
        due("a loop of none", stepsOf(44, 100, 45, 46), 2);
        due("a loop of three", stepsOf(44, 0, 40, 0, 11, 0, 101), 1 + 4 + 3);
        due("thrown", stepsOf(48, 100), 1);
        due("caught", stepsOf(49, 48, 100, 1, 45, 46), 3);
        due("not caught", stepsOf(49, 45, 46, 1, 45, 46), 2);
        due("hidden", stepsOf(51, 0, 100), 1);
        due("thrown by a part", stepsOf(45, 40, 1, 13, 101, 100, 45, 46, 46), 2);
        due("calls", stepsOf(43, 0, 47, 30, 11, 0, 101, 45, 46), 8);
        Mutagenry endless = made(0, 44, 101, 45, 46);
        due("the limit is passed", endless.steps(0, 0), 201);
        endless.setLimit(10);
        due("a lower one", endless.steps(0, 0), 11);
        Mutagenry ten = made(0, 45, 45, 45, 45, 45, 45, 45, 45, 45, 45, 46, 46, 46, 46, 46, 46, 46, 46, 46, 46);
        ten.setLimit(10);
        due("just the limit", ten.steps(0, 0), 10);
        due("is no passing", ten.outcome(0, 0), 0);
        change(ten, 0, 45, 45, 45, 45, 45, 45, 45, 45, 45, 45, 45, 46, 46, 46, 46, 46, 46, 46, 46, 46, 46, 46);
        due("one more", ten.steps(0, 0), 11);
        due("is one", ten.outcome(0, 0), 999);
        fails("no function", INDEX, () -> ten.steps(1, -1));
        fails("-1", ARGUMENT, () -> ten.steps(0, -1));
        fails("4096", ARGUMENT, () -> ten.steps(0, 4096));
    }

    private static void setLimit() {
        promise = 11;
        Mutagenry works = made(0, 44, 101, 45, 46);
        works.addTest(0, 0);
        due("200 at first", works.setLimit(10), 200);
        due("10", works.setLimit(400), 10);
        due("steps", works.steps(0, 0), 401);
        fails("9", ARGUMENT, () -> works.setLimit(9));
        fails("401", ARGUMENT, () -> works.setLimit(401));
        due("400 still", works.setLimit(200), 400);
        Mutagenry loop = made(1, 45, 44, 0, 40, 0, 11, 0, 101, 47, 105, 46);
        loop.addTest(0, given(7));
        due("it ends", loop.expected(0), 5);
        loop.setLimit(10);
        due("it passes the lower one", loop.expected(0), 999);
        loop.setLimit(20);
        due("and not the greater one", loop.expected(0), 5);
    }

    private static void setOperator() {
        promise = 12;
        Mutagenry works = made(2, 45, 42, 14, 0, 1, 40, 0, 10, 20, 1, 105, 47, 18, 0, 101, 46);
        int all = works.mutants();
        int sum = 0;
        for (char operator : "carluvns".toCharArray()) {
            due(operator + " was", works.setOperator(operator, false), true);
            due(operator + " was not", works.setOperator(operator, false), false);
            int less = works.mutants();
            due(operator + " was not, still", works.setOperator(operator, true), false);
            due(operator + " again", works.setOperator(operator, true), true);
            due("all again", works.mutants(), all);
            sum += all - less;
        }
        due("each is of one", sum, all);
        only(works, "n");
        due("n alone", listed(works), "1n42");
        only(works, "u");
        due("u alone", listed(works), "7u1");
        for (char operator : new char[] {'x', 'C', 'b', 0, '-', 65535}) {
            fails("no operator " + (int) operator, ARGUMENT, () -> works.setOperator(operator, true));
        }
        due("u alone still", works.mutants(), 1);
    }

    private static void setFunction() {
        promise = 13;
        Mutagenry works = made(1, 47, 0);
        add(works, 1, 48, 0);
        due("both", listed(works), "0s47 2s48");
        due("it was", works.setFunction(0, false), true);
        due("second alone", listed(works), "2s48");
        due("it was not", works.setFunction(0, false), false);
        due("the other one was", works.setFunction(1, false), true);
        due("none", works.mutants(), 0);
        due("it was not, and is", works.setFunction(0, true), false);
        due("first alone", listed(works), "0s47");
        fails("-1", INDEX, () -> works.setFunction(-1, true));
        fails("2", INDEX, () -> works.setFunction(2, true));
        add(works, 1, 47, 100);
        due("a new one is in", listed(works), "0s47 4s47 5c101 5c99");
        change(works, 1, 47, 100);
        due("a changed one stays out", works.setFunction(1, true), false);
    }

    private static void mutants() {
        promise = 14;
        due("none", new Mutagenry().mutants(), 0);
        due("a list", made(3, 45, 46).mutants(), 0);
        due("c of 0", listed(made(0, 48, 100)), "0s48 1c101 1c99");
        due("c of 1", listed(made(0, 48, 101)), "0s48 1c102 1c100");
        due("c of -1", listed(made(0, 48, 99)), "0s48 1c100 1c98");
        due("c of 5", listed(made(0, 48, 105)), "0s48 1c106 1c104 1c100");
        due("c of 7", listed(made(0, 48, 107)), "0s48 1c92 1c106 1c100");
        due("c of -8", listed(made(0, 48, 92)), "0s48 1c93 1c107 1c100");
        for (int word = 10; word <= 21; word++) {
            int from = word <= 13 ? 10 : word <= 17 ? 14 : 18;
            int to = word <= 13 ? 13 : word <= 17 ? 17 : 19;
            StringBuilder text = new StringBuilder("0s47");
            for (int other = from; other <= to && word < 20; other++) {
                text.append(other == word ? "" : " 1" + (word <= 13 ? 'a' : word <= 17 ? 'r' : 'l') + other);
            }
            int[] row = word < 20 ? new int[] {47, word, 0, 0} : new int[] {47, word, 0};
            due("of " + word, listed(made(0, row)), text.append(word < 20 ? "" : " 1u0").toString());
        }
        due("variables that are read", listed(made(0, 47, 10, 5, 3)), "0s47 1a11 1a12 1a13 2v3 3v5");
        due("that are parameters", listed(made(3, 47, 1)), "0s47 1v0 1v2");
        due("that are set alone", listed(made(1, 45, 40, 6, 0, 46)), "1s40 2v6");
        due("that are set by 49 alone", listed(made(0, 45, 49, 45, 46, 4, 45, 46, 47, 7, 46)), "4s47 5v4");
        due("hidden and cells are none", listed(made(0, 45, 51, 3, 24, 2, 41, 22, 0, 0, 46)), "1s51 3s41");
        due("what is asked", listed(made(0, 42, 0, 43, 0, 44, 0, 45, 46, 45, 46)), "0n42 2n43 4n44");
        due("calls are none", listed(made(0, 47, 30)), "0s47");
        due("u of a call", listed(made(0, 47, 21, 30)), "0s47 1u30");
        Mutagenry works = new Mutagenry();
        int[] row = new int[90];
        row[0] = 47;
        for (int i = 1; i < 45; i++) {
            row[i] = 10;
        }
        for (int i = 45; i < 90; i++) {
            row[i] = 105;
        }
        add(works, 0, row);
        due("150 at most", works.mutants(), 150);
        due("the first ones", works.placeOf(149), 50);
        only(works, "c");
        due("of c alone", works.mutants(), 135);
        add(works, 0, 47, 105);
        due("and the other one's", works.mutants(), 138);
    }

    private static void placeOf() {
        promise = 15;
        Mutagenry works = made(1, 45, 40, 0, 101, 47, 0, 46);
        add(works, 0, 48, 100);
        int[] places = {1, 2, 2, 3, 5, 6, 6};
        for (int i = 0; i < places.length; i++) {
            due("placeOf(" + i + ")", works.placeOf(i), places[i]);
        }
        fails("-1", INDEX, () -> works.placeOf(-1));
        fails("7", INDEX, () -> works.placeOf(7));
        works.setFunction(0, false);
        due("first of the other one", works.placeOf(0), 5);
        fails("3 now", INDEX, () -> works.placeOf(3));
    }

    private static void operatorOf() {
        promise = 16;
        Mutagenry works = made(2, 42, 18, 10, 105, 1, 14, 0, 20, 100, 47, 0);
        StringBuilder text = new StringBuilder();
        for (int i = 0; i < works.mutants(); i++) {
            text.append(works.operatorOf(i));
        }
        due("all", text.toString(), "nlaaacccvrrrvuccsv");
        fails("-1", INDEX, () -> works.operatorOf(-1));
        fails("behind the last", INDEX, () -> works.operatorOf(works.mutants()));
    }

    private static void mutatedWord() {
        promise = 17;
        due("all", listed(made(2, 42, 18, 10, 105, 1, 14, 0, 20, 100, 47, 0)),
                "0n42 1l19 2a11 2a12 2a13 3c106 3c104 3c100 4v0 5r15 5r16 5r17 6v1 7u100 8c101 8c99 9s47 10v1");
        due("u of 24", listed(made(0, 51, 0, 20, 24, 3)), "0s51 1u24");
        due("u of a sum", listed(made(0, 40, 0, 21, 11, 0, 0)), "0s40 1u11 2a10 2a12 2a13");
        Mutagenry works = made(0, 47, 0);
        fails("-1", INDEX, () -> works.mutatedWord(-1));
        fails("1", INDEX, () -> works.mutatedWord(1));
    }

    private static void addTest() {
        promise = 18;
        Mutagenry works = made(1, 47, 0);
        fails("no function 1", INDEX, () -> works.addTest(1, 0));
        fails("no function, wrong arguments", INDEX, () -> works.addTest(-1, 5000));
        fails("-1", ARGUMENT, () -> works.addTest(0, -1));
        fails("4096", ARGUMENT, () -> works.addTest(0, 4096));
        due("none was added", works.tests(), 0);
        for (int i = 0; i < 16; i++) {
            due("test " + i, works.addTest(0, i == 15 ? 4095 : i), i);
        }
        fails("the 17th", STATE, () -> works.addTest(0, 0));
        fails("the 17th, wrong arguments", ARGUMENT, () -> works.addTest(0, 4096));
        fails("the 17th, no function", INDEX, () -> works.addTest(1, 0));
        due("tests()", works.tests(), 16);
        due("the last one", works.expected(15), 7);
    }

    private static void expected() {
        promise = 19;
        Mutagenry works = made(2, 45, 51, 0, 10, 24, 0, 0, 47, 10, 24, 0, 1, 46);
        works.addTest(0, number(2, 3, 0));
        works.addTest(0, number(2, 3, 5));
        add(works, 0, 48, 104);
        works.addTest(1, 0);
        due("first", works.expected(0), 5);
        due("hidden ones are 0 again", works.expected(1), 5);
        due("thrown", works.expected(2), 104);
        fails("-1", INDEX, () -> works.expected(-1));
        fails("3", INDEX, () -> works.expected(3));
        change(works, 1, 44, 101, 45, 46);
        due("passed", works.expected(2), 999);
    }

    private static void told() {
        promise = 20;
        // the first parameter, if it is greater than the second one, otherwise 5
        Mutagenry works = made(2, 43, 14, 1, 0, 47, 0, 47, 105);
        works.addTest(0, number(3, 1, 0));
        works.addTest(0, number(2, 2, 0));
        due("mutants", listed(works), "0n43 1r15 1r16 1r17 2v0 3v1 4s47 5v1 6s47 7c106 7c104 7c100");
        due("3 and 1", toldAll(works, 0), "krkrkkkk----");
        due("2 and 2", toldAll(works, 1), "kkkrrr--kkkk");
        fails("mutant -1", INDEX, () -> works.told(-1, 0));
        fails("mutant 12", INDEX, () -> works.told(12, 0));
        fails("test -1", INDEX, () -> works.told(0, -1));
        fails("test 2", INDEX, () -> works.told(0, 2));
        infected();
    }

    private static void infected() {
        due("infected, and taken back", toldOf(made(1, 47, 12, 100, 10, 0, 101), "a"), "kkriii");
        due("'s' is infected when reached", toldOf(made(1, 45, 40, 1, 105, 47, 0, 46), "s"), "ik");
        due("'n' is infected when reached", toldOf(made(1, 45, 42, 0, 40, 1, 105, 47, 0, 46), "n"), "i");
        // the caught value is not told on, so that the place tells what was thrown
        due("thrown in place of a value", toldOf(made(1, 49, 40, 1, 10, 0, 100, 2, 45, 46), "a"), "rii");
        due("a value in place of what is thrown", toldOf(made(1, 49, 40, 1, 13, 0, 100, 2, 45, 46), "a"), "iii");
        due("the same thrown value", toldOf(made(2, 49, 48, 10, 0, 13, 0, 1, 2, 45, 46), "u"), "");
        due("both throw alike", toldOf(made(2, 49, 48, 10, 0, 22, 105, 2, 45, 46), "a"), "rrr");
        // a first time alike, a second time unlike
        due("infected at a later time",
                toldOf(made(1, 45, 44, 0, 45, 40, 1, 14, 101, 0, 40, 0, 11, 0, 101, 46, 46), "r"), "iir");
        Mutagenry hidden = made(1, 45, 51, 0, 10, 24, 0, 101, 47, 24, 0, 46);
        add(hidden, 1, 45, 40, 1, 12, 10, 30, 0, 100, 101, 47, 24, 0, 46);
        hidden.setFunction(0, false);
        only(hidden, "a");
        hidden.addTest(1, given(2));
        due("hidden ones are put back", hidden.alone(0, 0), 1);
        due("aside nothing is left", toldAll(hidden, 0), "iirrik");
        asideLimit();
        asideSteps();
        asideDepth();
        Mutagenry fresh = made(1, 45, 40, 1, 12, 24, 0, 0, 51, 0, 105, 46);
        due("hidden ones are 0 again", toldOf(fresh, "a"), "iir");
    }

    // 60 steps ahead of the place, and 61 at it: those ahead do not count aside.
    private static void asideSteps() {
        int[] rounds = {45, 44, 0, 45, 40, 0, 11, 0, 101, 45, 46, 45, 46, 46, 47, 100, 46};
        Mutagenry works = made(1, rounds);
        due("steps of 11 rounds", works.steps(0, given(-5)), 1 + 1 + 12 + 11 * 4 + 1);
        add(works, 0, 45, 40, 0, 30, 95, 40, 0, 10, 30, 95, 100, 46);
        works.setFunction(0, false);
        only(works, "a");
        works.addTest(1, 0);
        due("aside begins at 0", toldAll(works, 0), "rrk");
    }

    // The first function sets its parameter to 0 and goes on without end, if it was not 0.
    private static void asideDepth() {
        Mutagenry works = made(1, 45, 42, 0, 45, 40, 0, 100, 44, 101, 45, 46, 46, 46);
        add(works, 1, 47, 10, 30, 0, 100);
        works.setFunction(0, false);
        only(works, "a");
        works.addTest(1, given(2));
        due("a mutant that passes its limit at the place gives nothing", toldAll(works, 0), "rrr");
        works.addTest(1, given(0));
        due("one that does not", toldAll(works, 1), "rrk");
    }

    private static String toldOf(Mutagenry works, String operators) {
        only(works, operators);
        works.addTest(0, given(2));
        return toldAll(works, 0);
    }

    // The program takes more than 100 steps at the place where the mutant gives the same value.
    private static void asideLimit() {
        Mutagenry works = made(1, 45, 44, 0, 40, 0, 11, 0, 101, 47, 100, 46);
        add(works, 1, 47, 10, 30, 98, 30, 98);
        only(works, "a");
        works.setFunction(0, false);
        works.addTest(1, 0);
        int each = works.steps(0, given(-2));
        due("steps of one call", each, 1 + 1 + 15 + 14 + 1);
        due("steps of both", works.steps(1, 0), 2 * each + 1);
        due("in 100 steps", toldAll(works, 0), "rrk");
        change(works, 0, 45, 44, 0, 45, 40, 0, 11, 0, 101, 45, 46, 45, 46, 46, 47, 100, 46);
        due("steps of both, more", works.steps(1, 0) > 101, true);
        due("in more than 100 steps", toldAll(works, 0), "iik");
    }

    private static void alone() {
        promise = 21;
        Mutagenry works = made(2, 43, 14, 1, 0, 47, 0, 47, 105);
        works.addTest(0, number(3, 1, 0));
        int[] due = {5, 3, 5, 3, 5, 5, 0, 1, 3, 3, 3, 3};
        for (int i = 0; i < due.length; i++) {
            due("mutant " + i, works.alone(i, 0), due[i]);
        }
        fails("mutant -1", INDEX, () -> works.alone(-1, 0));
        fails("mutant 12", INDEX, () -> works.alone(12, 0));
        fails("test 1", INDEX, () -> works.alone(0, 1));
        fails("test -1", INDEX, () -> works.alone(0, -1));
        // 1 and 0: the loop is left out by the program, and goes on without end in the mutant
        Mutagenry loop = made(1, 45, 44, 0, 45, 46, 47, 100, 46);
        only(loop, "n");
        loop.addTest(0, given(0));
        loop.addTest(0, given(1));
        due("the limit of the mutant is passed", loop.alone(0, 0), 999);
        due("it ends where the program does not", loop.alone(0, 1), 0);
        limits();
        exactLimit();
        due("s leaves out what it has in it", made(0, 45, 47, 13, 101, 100, 46).mutants() > 0, true);
        Mutagenry skipped = made(0, 45, 40, 1, 13, 101, 100, 47, 103, 46);
        only(skipped, "s");
        skipped.addTest(0, 0);
        due("thrown by the program", skipped.expected(0), 101);
        due("not by the mutant", skipped.alone(0, 0), 3);
    }

    // The program takes just the limit, so that the mutant has 60 steps.
    private static void exactLimit() {
        Mutagenry works = made(0, 45, 40, 0, 103, 44, 0, 40, 0, 11, 0, 101, 47, 105, 46);
        only(works, "c");
        works.addTest(0, 0);
        due("steps", works.steps(0, 0), 11);
        works.setLimit(11);
        due("4 rounds", works.alone(0, 0), 5);
        works.setLimit(10);
        due("4 rounds, the limit being passed", works.alone(0, 0), 999);
        due("2 rounds", works.alone(1, 0), 5);
    }

    // The program takes 9 steps on 2, so that the mutant has 56: of a list of n rounds each takes 3.
    private static void limits() {
        Mutagenry works = made(1, 45, 44, 0, 45, 40, 0, 11, 0, 101, 46, 47, 103, 46);
        only(works, "c");
        works.addTest(0, given(2));
        due("steps of the program", works.steps(0, given(2)), 10);
        due("less 2 goes round to 0", works.alone(0, 0), 3);
        due("less 0 never ends", works.alone(1, 0), 999);
        works.setLimit(10);
        due("a limit that is not passed", works.alone(0, 0), 3);
        Mutagenry slow = made(1, 45, 40, 0, 10, 0, 100, 44, 0, 45, 40, 0, 11, 0, 101, 46, 47, 103, 46);
        only(slow, "c");
        slow.addTest(0, given(3));
        due("steps of 3", slow.steps(0, given(3)), 14);
        due("4 takes 17, of 76", slow.alone(0, 0), 3);
        slow.setLimit(13);
        due("the program passes 13", slow.expected(0), 999);
        due("and the mutant of 4 as well", slow.alone(0, 0), 999);
        due("that of 2 does not", slow.alone(1, 0), 3);
        Mutagenry edge = made(1, 45, 44, 0, 40, 0, 11, 0, 101, 46);
        only(edge, "v");
        due("no other variable", edge.mutants(), 0);
        // 2 steps by the program, 28 for the mutant: it takes 1 + 1 + n + 1 + n
        Mutagenry just = made(1, 45, 40, 0, 100, 44, 0, 40, 0, 11, 0, 101, 46);
        only(just, "c");
        just.addTest(0, 0);
        due("steps of a loop of none", just.steps(0, 0), 4);
        due("36 are enough for 1 round", just.alone(0, 0), 0);
        due("and for 15 rounds", just.alone(1, 0), 0);
    }

    private static void kills() {
        promise = 22;
        Mutagenry works = made(2, 43, 14, 1, 0, 47, 0, 47, 105);
        due("no test kills", works.kills(0), 0);
        works.addTest(0, number(3, 1, 0));
        works.addTest(0, number(2, 2, 0));
        int[] due = {3, 2, 3, 0, 1, 1, 1, 1, 2, 2, 2, 2};
        for (int i = 0; i < due.length; i++) {
            due("kills(" + i + ")", works.kills(i), due[i]);
        }
        works.addTest(0, number(1, 2, 0));
        due("a test more", works.kills(3), 4);
        due("and one before", works.kills(0), 7);
        fails("-1", INDEX, () -> works.kills(-1));
        fails("12", INDEX, () -> works.kills(12));
        works.setOperator('n', false);
        due("numbered anew", works.kills(2), 4);
        change(works, 0, 43, 14, 1, 0, 47, 0, 47, 104);
        due("behind a change", works.kills(0), 2);
        due("behind a change, return of the first", works.kills(5), 1);
        change(works, 0, 47, 105);
        due("behind another one", works.kills(0), 7);
        change(works, 0, 45, 44, 101, 45, 46, 47, 105, 46);
        due("what is not come to", works.kills(works.mutants() - 1), 0);
    }

    private static void runs() {
        promise = 23;
        Mutagenry works = made(2, 43, 14, 1, 0, 47, 0, 47, 105);
        due("no tests", works.runs(), 0L);
        works.addTest(0, number(3, 1, 0));
        due("one and 8", works.runs(), 9L);
        works.addTest(0, number(2, 2, 0));
        due("one and 10 more", works.runs(), 20L);
        only(works, "c");
        due("c alone", works.runs(), 5L);
        only(works, "");
        due("none", works.runs(), 2L);
    }

    private static char like(Mutagenry works, char operator, int word) {
        for (int i = 0; i < works.mutants(); i++) {
            if (works.operatorOf(i) == operator && works.mutatedWord(i) == word) {
                return works.isLike(i);
            }
        }
        return '?';
    }

    private static void isLike() {
        promise = 24;
        due("x + 0 and x - 0", like(made(1, 47, 10, 0, 100), 'a', 11), 'n');
        due("0 + x and 0 - x", like(made(1, 47, 10, 100, 0), 'a', 11), '-');
        due("x - 0 and x + 0", like(made(3, 47, 11, 2, 100), 'a', 10), 'n');
        due("x * 1 and x / 1, by all inputs", like(made(1, 47, 12, 0, 101), 'a', 13), 'b');
        due("the same of 3 parameters is not", like(made(3, 47, 12, 0, 101), 'a', 13), '-');
        due("1 * x and x", like(made(1, 47, 10, 12, 101, 0, 100), 'a', 11), 'n');
        due("numbers of numbers", like(made(0, 47, 12, 102, 102), 'a', 10), 'n');
        due("10 102 102 is 104", like(made(0, 47, 10, 102, 102), 'a', 12), 'n');
        due("8 goes round", like(made(0, 47, 12, 104, 104), 'a', 10), '-');
        due("13 of numbers", like(made(0, 47, 13, 104, 102), 'a', 11), 'n');
        due("13 by 0 stays", like(made(0, 47, 13, 102, 100), 'a', 10), '-');
        due("less and unlike of numbers", like(made(0, 47, 14, 101, 102), 'r', 17), 'n');
        due("less and same of numbers", like(made(0, 47, 14, 101, 102), 'r', 16), '-');
        due("both and any of numbers", like(made(0, 47, 18, 101, 102), 'l', 19), 'n');
        due("negative of 0", like(made(0, 47, 20, 100), 'u', 100), 'n');
        due("negative of -8", like(made(0, 47, 20, 92), 'u', 92), 'n');
        due("negative of negative", like(made(1, 47, 20, 20, 20, 0), 'u', 20), '-');
        due("is 0 of 1", like(made(0, 47, 21, 101), 'u', 101), '-');
        due("what is not told on", like(made(2, 45, 40, 5, 10, 1, 0, 46), 'v', 5), 'b');
        due("a variable that is not told on", like(made(1, 45, 40, 5, 0, 46), 'v', 5), 'b');
        due("x + x and x + x", like(made(1, 47, 11, 12, 0, 100, 12, 0, 100), 'c', 101), '-');
        due("times 0 is not made simpler", like(made(1, 47, 12, 0, 100), 'v', 1), '?');
        due("hidden ones that are read", like(made(0, 45, 40, 1, 24, 0, 47, 12, 2, 101, 46), 'a', 13), '-');
        due("hidden ones that are set alone", like(made(0, 45, 51, 1, 100, 47, 12, 2, 101, 46), 'a', 13), 'b');
        due("s of what is not told on", like(made(1, 45, 40, 5, 0, 47, 0, 46), 's', 40), 'b');
        due("n of what does nothing", like(made(1, 45, 42, 0, 45, 46, 47, 0, 46), 'n', 42), 'b');
        due("s that matters", like(made(1, 45, 40, 0, 103, 47, 0, 46), 's', 40), '-');
        Mutagenry both = made(1, 47, 12, 0, 101);
        due("one function", like(both, 'a', 13), 'b');
        add(both, 3, 47, 100);
        due("and one of three parameters", like(both, 'a', 13), '-');
        change(both, 1, 47, 100);
        Mutagenry order = made(2, 47, 16, 1, 0);
        due("same of the same", like(order, 'v', 0), '-');
        Mutagenry turned = made(2, 45, 47, 16, 0, 1, 47, 0, 46);
        due("behind the return, by all inputs", turned.isLike(turned.mutants() - 1), 'b');
        // 4 steps of the program on -1, so that the mutant has 36; it needs 15 rounds there
        int[] rounds = {45, 44, 14, 100, 0, 40, 0, 11, 0, 101, 47, 100, 46};
        due("34 steps are in the limit", like(made(1, rounds), 'r', 17), 'b');
        int[] longer = {45, 44, 14, 100, 0, 45, 40, 0, 11, 0, 101, 46, 47, 100, 46};
        due("49 steps pass it", like(made(1, longer), 'r', 17), '-');
        due("one round more does not", like(made(1, longer), 'r', 15), 'b');
        turnedForms();
        staleLikes();
        fails("-1", INDEX, () -> turned.isLike(-1));
        fails("behind the last", INDEX, () -> turned.isLike(turned.mutants()));
    }

    // A mutant of one variable can not turn two; sums of a number and a variable can be told apart by words alone.
    private static void turnedForms() {
        due("3 parameters: 0 1 and 1 1 are unlike", like(made(3, 47, 18, 1, 0), 'v', 0), '-');
        due("less than: the parts keep their order", like(made(3, 47, 15, 101, 101), 'r', 16), 'n');
        due("-(-x), less one", like(made(3, 47, 20, 10, 20, 0, 100), 'a', 11), 'n');
        due("0 + (x * 1)", like(made(3, 47, 10, 100, 12, 0, 101), 'c', 100), '-');
        due("1 less of 1 + x", like(made(3, 47, 10, 101, 0), 'c', 100), '-');
        Mutagenry one = made(3, 47, 12, 0, 11, 101, 100);
        due("1 - 0 and 1 + 0", one.mutatedWord(6) + " " + one.isLike(6) + one.isLike(1) + one.isLike(2), "10 n--");
        due("both of x and 3", like(made(3, 47, 18, 0, 12, 101, 103), 'c', 104), '-');
        due("unused text of 24", like(made(3, 45, 40, 1, 11, 24, 1, 100, 46), 'a', 10), 'n');
        due("words behind one that is left out", like(made(3, 45, 40, 1, 20, 100, 51, 0, 12, 0, 101, 46), 'u', 100), 'n');
        due("(x + y) * 1 + 0", like(made(3, 47, 10, 12, 10, 1, 0, 101, 100), 'a', 11), 'n');
        due("(x + y) * 1 - 0", like(made(3, 47, 11, 12, 11, 1, 0, 101, 100), 'a', 10), 'n');
        due("2 less 2 is 0", like(made(3, 47, 11, 0, 11, 102, 102), 'a', 10), 'n');
        due("x * (0 = 0)", like(made(3, 47, 12, 0, 16, 100, 100), 'r', 15), 'n');
        due("x * not 0", like(made(3, 47, 12, 0, 21, 100), 'c', 101), '-');
        due("negative of a sum", like(made(3, 47, 20, 10, 0, 1), 'u', 10), '-');
        due("calls are not made simpler", like(made(3, 45, 40, 1, 11, 30, 0, 1, 11, 2, 100, 100, 46), 'a', 10), 'n');
    }

    private static void staleLikes() {
        Mutagenry works = made(1, 45, 44, 101, 45, 46, 47, 0, 46);
        due("the program passes the limit, as the mutant", works.isLike(works.mutants() - 1), 'b');
        Mutagenry limit = made(0, 45, 40, 0, 107, 44, 0, 40, 0, 11, 0, 101, 47, 105, 46);
        only(limit, "c");
        due("7 rounds and 6", limit.isLike(1), 'b');
        due("return of another number", limit.isLike(5), '-');
        limit.setLimit(10);
        due("the limit is passed by each", limit.isLike(5), 'b');
        limit.setLimit(200);
        due("and no more", limit.isLike(5), '-');
        due("7 and 6 again", limit.isLike(1), 'b');
        limit.setOperator('s', true);
        due("now another one", limit.operatorOf(7) + " " + limit.isLike(7), "s -");
        due("left out set", limit.operatorOf(0) + " " + limit.isLike(0), "s b");
        change(limit, 0, 45, 40, 0, 107, 47, 0, 46);
        due("left out set, changed", limit.operatorOf(0) + " " + limit.isLike(0), "s -");
    }

    private static void isSubsumed() {
        promise = 25;
        Mutagenry works = made(2, 43, 14, 1, 0, 47, 0, 47, 105);
        works.addTest(0, number(3, 1, 0));
        works.addTest(0, number(2, 2, 0));
        due("3 by 2", works.isSubsumed(0, 1), true);
        due("2 by 3", works.isSubsumed(1, 0), false);
        due("3 by 1", works.isSubsumed(0, 4), true);
        due("3 by 3", works.isSubsumed(0, 2), false);
        due("by itself", works.isSubsumed(0, 0), false);
        due("1 by 2", works.isSubsumed(4, 1), false);
        due("3 by none", works.isSubsumed(0, 3), false);
        due("none by 3", works.isSubsumed(3, 0), false);
        fails("-1", INDEX, () -> works.isSubsumed(-1, 0));
        fails("by -1", INDEX, () -> works.isSubsumed(0, -1));
        fails("12", INDEX, () -> works.isSubsumed(12, 0));
        fails("by 12", INDEX, () -> works.isSubsumed(0, 12));
    }

    private static void minimals() {
        promise = 26;
        Mutagenry works = made(2, 43, 14, 1, 0, 47, 0, 47, 105);
        due("no tests", works.minimals(), 0);
        works.addTest(0, number(3, 1, 0));
        due("one", works.minimals(), 1);
        works.addTest(0, number(2, 2, 0));
        due("2 and 1", works.minimals(), 2);
        works.addTest(0, number(1, 2, 0));
        due("a third one", works.minimals(), 3);
        only(works, "");
        due("no mutants", works.minimals(), 0);
    }

    private static void minimalAt() {
        promise = 27;
        Mutagenry works = made(2, 43, 14, 1, 0, 47, 0, 47, 105);
        fails("none", NONE, () -> works.minimalAt(0));
        works.addTest(0, number(3, 1, 0));
        due("the lowest", works.minimalAt(0), 0);
        works.addTest(0, number(2, 2, 0));
        due("of 2", works.minimalAt(0), 1);
        due("of 1", works.minimalAt(1), 4);
        fails("2", NONE, () -> works.minimalAt(2));
        fails("-1", NONE, () -> works.minimalAt(-1));
        works.addTest(0, number(1, 2, 0));
        due("of 2 and 4: 15 is killed by 2 alone", works.kills(1), 2);
        due("of 4 alone", works.minimalAt(1), 3);
        due("of 1 alone", works.minimalAt(2), 4);
    }

    private static void score() {
        promise = 28;
        Mutagenry works = made(2, 43, 14, 1, 0, 47, 0, 47, 105);
        fails("no least kills", ARITHMETIC, () -> works.score(0, true));
        due("no tests", works.score(0, false), 0f);
        works.addTest(0, number(3, 1, 0));
        works.addTest(0, number(2, 2, 0));
        due("none", works.score(0, false), 0f);
        due("first", works.score(1, false), 6f / 12f);
        due("second", works.score(2, false), 7f / 12f);
        due("both", works.score(3, false), 11f / 12f);
        due("least kills of none", works.score(0, true), 0f);
        due("least kills of first", works.score(1, true), 0.5f);
        due("least kills of second", works.score(2, true), 0.5f);
        due("least kills of both", works.score(3, true), 1f);
        fails("-1", ARGUMENT, () -> works.score(-1, false));
        fails("4", ARGUMENT, () -> works.score(4, true));
        only(works, "");
        fails("no mutants", ARITHMETIC, () -> works.score(3, false));
        fails("no mutants, no such tests", ARGUMENT, () -> works.score(4, false));
        Mutagenry like = made(1, 47, 10, 0, 100);
        only(like, "a");
        like.addTest(0, given(3));
        due("without one that is like by one form", like.score(1, false), 1f);
        Mutagenry byAll = made(1, 47, 12, 0, 101);
        only(byAll, "a");
        byAll.addTest(0, given(3));
        due("with one that is like by all inputs", byAll.score(1, false), (float) (2.0 / 3.0));
    }

    private static void orderAt() {
        promise = 29;
        Mutagenry works = made(2, 43, 14, 1, 0, 47, 0, 47, 105);
        fails("none", NONE, () -> works.orderAt(0));
        works.addTest(0, number(3, 1, 0));
        works.addTest(0, number(3, 1, 0));
        works.addTest(0, number(2, 2, 0));
        works.addTest(0, number(1, 2, 0));
        due("most", works.orderAt(0), 2);
        due("next", works.orderAt(1), 0);
        due("then", works.orderAt(2), 3);
        due("with none", works.orderAt(3), 1);
        fails("4", NONE, () -> works.orderAt(4));
        fails("-1", NONE, () -> works.orderAt(-1));
        only(works, "");
        due("without mutants", works.orderAt(0), 0);
        due("by numbers", works.orderAt(3), 3);
    }

    private static void leastSet() {
        promise = 30;
        Mutagenry works = made(2, 43, 14, 1, 0, 47, 0, 47, 105);
        works.addTest(0, number(3, 1, 0));
        due("one", works.leastSet(true), 1);
        works.addTest(0, number(3, 1, 0));
        works.addTest(0, number(2, 2, 0));
        works.addTest(0, number(1, 2, 0));
        due("kills", works.leastSet(true), 1 + 4 + 8);
        due("places", works.leastSet(false), 1 + 4);
        only(works, "s");
        due("kills of s", works.leastSet(true), 1 + 4);
        only(works, "");
        due("kills of none", works.leastSet(true), 0);
        due("places of all", works.leastSet(false), 5);
        // greedy would take the third one, of most places, and then both others
        Mutagenry sets = made(3, 45, 42, 0, 45, 40, 3, 100, 46, 42, 1, 45, 40, 4, 100, 46, 42, 2, 47, 100, 46);
        sets.addTest(0, number(1, 0, 0));
        sets.addTest(0, number(0, 1, 0));
        sets.addTest(0, number(1, 1, 0));
        sets.addTest(0, number(0, 1, 1));
        sets.addTest(0, number(1, 0, 1));
        due("two of five, the least", sets.leastSet(false), 1 + 8);
        sets.addTest(0, number(1, 1, 1));
        due("one of six", sets.leastSet(false), 32);
    }

    private static void covers() {
        promise = 31;
        Mutagenry works = made(2, 43, 14, 1, 0, 47, 0, 47, 105);
        works.addTest(0, number(3, 1, 0));
        works.addTest(0, number(2, 2, 0));
        due("6", works.covers(0), 6);
        due("6 as well", works.covers(1), 6);
        add(works, 1, 45, 42, 0, 47, 30, 0, 101, 47, 13, 101, 100, 48, 100, 46);
        works.addTest(1, given(3));
        works.addTest(1, given(0));
        due("through a call", works.covers(2), 7 + 6);
        due("up to a throw", works.covers(3), 3 + 4);
        fails("-1", INDEX, () -> works.covers(-1));
        fails("4", INDEX, () -> works.covers(4));
        change(works, 0, 47, 100);
        due("behind a change", works.covers(2), 7 + 2);
        due("of another one", works.covers(0), 2);
        change(works, 0, 45, 48, 100, 47, 1, 46);
        due("behind another change", works.covers(0), 3);
        works.setLimit(10);
        change(works, 0, 45, 44, 101, 45, 46, 47, 1, 46);
        due("without end", works.covers(0), 4);
    }

    private static void ways() {
        promise = 32;
        Mutagenry works = made(2, 45, 42, 0, 45, 46, 43, 1, 45, 46, 45, 46, 44, 0, 40, 0, 100, 46);
        due("none", works.ways(), 0);
        works.addTest(0, number(0, 0, 0));
        due("not so, each", works.ways(), 3);
        works.addTest(0, number(0, 1, 0));
        due("one so", works.ways(), 4);
        works.addTest(0, number(1, 0, 0));
        due("all", works.ways(), 6);
        works.addTest(0, number(1, 1, 0));
        due("all again", works.ways(), 6);
        Mutagenry thrown = made(0, 42, 13, 101, 100, 45, 46);
        thrown.addTest(0, 0);
        due("thrown while it asks", thrown.ways(), 0);
        Mutagenry loop = made(1, 44, 0, 40, 0, 11, 0, 101);
        loop.addTest(0, given(2));
        due("both of one run", loop.ways(), 2);
        change(loop, 0, 44, 0, 47, 100);
        due("behind a change", loop.ways(), 1);
        change(loop, 0, 45, 46);
        due("behind another one", loop.ways(), 0);
    }

    private static void pairKills() {
        promise = 33;
        Mutagenry works = made(2, 47, 10, 0, 1);
        due("mutants", listed(works), "0s47 1a11 1a12 1a13 2v1 3v0");
        works.addTest(0, number(3, 1, 0));
        works.addTest(0, number(2, 2, 0));
        due("both turned", works.pairKills(4, 5), 0);
        due("in the other order", works.pairKills(5, 4), 0);
        fails("the same place", UNSUPPORTED, () -> works.pairKills(1, 2));
        fails("the same one", UNSUPPORTED, () -> works.pairKills(4, 4));
        fails("within", UNSUPPORTED, () -> works.pairKills(0, 4));
        fails("within, the other way", UNSUPPORTED, () -> works.pairKills(5, 1));
        fails("-1", INDEX, () -> works.pairKills(-1, 0));
        fails("6", INDEX, () -> works.pairKills(0, 6));
        fails("6, the same place", INDEX, () -> works.pairKills(6, 6));
        Mutagenry two = made(1, 45, 40, 1, 0, 47, 1, 46);
        only(two, "s");
        two.addTest(0, given(3));
        two.addTest(0, given(0));
        due("both left out", two.pairKills(0, 1), 1);
        Mutagenry limit = made(1, 45, 40, 1, 100, 44, 1, 45, 46, 47, 103, 46);
        only(limit, "cn");
        limit.addTest(0, given(3));
        due("n alone kills", limit.kills(2), 1);
        due("as both do not", limit.pairKills(0, 2), 0);
        Mutagenry functions = made(1, 47, 10, 0, 101);
        add(functions, 1, 47, 11, 30, 0, 101);
        only(functions, "c");
        functions.addTest(1, given(2));
        functions.addTest(0, given(2));
        due("of two functions", functions.pairKills(0, 2), 2);
    }

    private static void masked() {
        promise = 34;
        Mutagenry works = made(2, 47, 10, 0, 1);
        works.addTest(0, number(3, 1, 0));
        works.addTest(0, number(2, 2, 0));
        works.addTest(0, number(0, 5, 0));
        due("masked, asked first", works.masked(4, 5), 5);
        due("kills", works.kills(4), 5);
        due("kills of the other one", works.kills(5), 5);
        due("masked", works.masked(4, 5), 5);
        fails("the same place", UNSUPPORTED, () -> works.masked(1, 3));
        fails("within", UNSUPPORTED, () -> works.masked(4, 0));
        fails("-1", INDEX, () -> works.masked(0, -1));
        fails("6", INDEX, () -> works.masked(6, 0));
        Mutagenry limit = made(1, 45, 40, 1, 100, 44, 1, 45, 46, 47, 103, 46);
        only(limit, "cn");
        limit.addTest(0, given(3));
        due("both kill alone, not together", limit.masked(0, 2), 1);
        Mutagenry two = made(1, 45, 40, 1, 0, 47, 1, 46);
        only(two, "s");
        two.addTest(0, given(3));
        due("none is masked", two.masked(0, 1), 0);
    }

    private static void isHarder() {
        promise = 35;
        Mutagenry works = made(2, 47, 10, 0, 1);
        works.addTest(0, number(3, 1, 0));
        due("no test kills the pair", works.isHarder(4, 5), false);
        Mutagenry harder = made(2, 47, 12, 10, 0, 101, 10, 1, 101);
        only(harder, "c");
        harder.addTest(0, number(1, 1, 0));
        harder.addTest(0, number(-1, -2, 0));
        due("harder, asked first", harder.isHarder(0, 2), true);
        due("mutants", listed(harder), "4c102 4c100 7c102 7c100");
        due("kills of the first", harder.kills(0), 3);
        due("kills of the second", harder.kills(2), 1);
        due("kills of both", harder.pairKills(0, 2), 1);
        due("harder", harder.isHarder(0, 2), true);
        due("in the other order", harder.isHarder(2, 0), true);
        harder.addTest(0, number(-1, -1, 0));
        due("a test that kills both but neither", harder.pairKills(0, 2), 1 + 4);
        due("kills of the second then", harder.kills(2), 1);
        due("not harder", harder.isHarder(0, 2), false);
        fails("the same place", UNSUPPORTED, () -> harder.isHarder(0, 1));
        fails("4", INDEX, () -> harder.isHarder(4, 4));
        fails("-1", INDEX, () -> harder.isHarder(0, -1));
    }

    private static void killing() {
        promise = 36;
        Mutagenry works = made(2, 43, 14, 1, 0, 47, 0, 47, 105);
        due("n", works.killing(0, 0), number(-8, -8, 0));
        due("15", works.killing(1, 0), number(-8, -8, 0));
        due("17", works.killing(3, 0), number(-8, -7, 0));
        due("0 of the second", works.killing(4, 0), number(-7, -8, 0));
        due("c", works.killing(9, 0), number(-8, -8, 0));
        Mutagenry one = made(1, 47, 16, 0, 103);
        only(one, "c");
        due("4 for 3", one.killing(0, 0), given(3));
        due("2 for 3", one.killing(1, 0), given(2));
        due("0 for 3", one.killing(2, 0), given(0));
        add(one, 0, 47, 30, 103);
        due("none are told as 0", one.killing(0, 1), number(0, 0, 0));
        fails("2 for 3 by the other one", INDEX, () -> one.killing(0, 2));
        add(one, 0, 47, 104);
        fails("a function that does not come there", NONE, () -> one.killing(0, 2));
        fails("-1", INDEX, () -> one.killing(-1, 0));
        fails("behind the last", INDEX, () -> one.killing(one.mutants(), 0));
        fails("function -1", INDEX, () -> one.killing(0, -1));
        Mutagenry like = made(1, 47, 12, 0, 101);
        only(like, "a");
        fails("one that is like", NONE, () -> like.killing(2, 0));
        Mutagenry hidden = made(1, 45, 51, 0, 10, 24, 0, 101, 47, 10, 24, 0, 12, 0, 101, 46);
        only(hidden, "a");
        fails("hidden ones begin with 0 in both runs", NONE, () -> hidden.killing(8, 0));
        due("all -8", made(3, 47, 0).killing(0, 0), 0);
        Mutagenry three = made(3, 47, 18, 16, 0, 105, 18, 16, 1, 106, 16, 2, 107);
        only(three, "c");
        due("all three", three.killing(three.mutants() - 1, 0), number(5, 6, 0));
        due("the last but one", three.killing(three.mutants() - 2, 0), number(5, 6, 6));
    }

    private static void far() {
        promise = 37;
        int[][] places = {{14, 1}, {15, 2}, {16, 3}, {17, 4}};
        for (int[] place : places) {
            Mutagenry works = made(2, 47, place[0], 0, 1);
            String so = "";
            for (int first = -1; first <= 1; first++) {
                int arguments = number(3 * first, 0, 0);
                so += works.far(0, arguments, 1, true) + "" + works.far(0, arguments, 1, false);
            }
            due("so and not so of " + place[0], so, new String[] {"031040", "040130", "300130", "031003"}[place[1] - 1]);
            due("it does not go round", works.far(0, number(7, -8, 0), 1, true), new int[] {16, 15, 15, 0}[place[1] - 1]);
            due("nor there", works.far(0, number(-8, 7, 0), 1, false), new int[] {15, 16, 0, 15}[place[1] - 1]);
        }
        Mutagenry works = made(2, 45, 40, 0, 10, 0, 101, 44, 1, 45, 40, 2, 12, 1, 103, 40, 1, 11, 1, 101, 46, 46);
        due("places", works.wordOf(9), 12);
        due("a sum so", works.far(0, number(3, 0, 0), 2, true), 0);
        due("a sum not so", works.far(0, number(3, 0, 0), 2, false), 4);
        due("a sum that is 0 so", works.far(0, number(-1, 0, 0), 2, true), 1);
        due("a sum that is 0 not so", works.far(0, number(-1, 0, 0), 2, false), 0);
        due("a variable", works.far(0, number(-5, 0, 0), 3, false), 5);
        due("a number", works.far(0, number(-5, 0, 0), 4, false), 1);
        due("never", works.far(0, number(3, 0, 0), 9, true), 99);
        due("the least of some times", works.far(0, number(3, 3, 0), 9, false), 3);
        due("what is asked at last", works.far(0, number(3, 3, 0), 6, false), 0);
        fails("a statement", UNSUPPORTED, () -> works.far(0, 0, 0, true));
        fails("no place", INDEX, () -> works.far(0, 0, works.places(), true));
        fails("no place -1", INDEX, () -> works.far(0, 0, -1, true));
        fails("no function", INDEX, () -> works.far(1, 5000, 0, true));
        fails("no such arguments", ARGUMENT, () -> works.far(0, 4096, 0, true));
        fails("no such arguments -1", ARGUMENT, () -> works.far(0, -1, 2, true));
        fails("no place, wrong arguments", INDEX, () -> works.far(0, -1, 99, true));
        Mutagenry thrown = made(1, 47, 13, 104, 0);
        due("it throws", thrown.far(0, given(0), 1, true), 99);
        due("it does not", thrown.far(0, given(2), 1, false), 2);
        due("its part is found", thrown.far(0, given(0), 3, true), 1);
        Mutagenry call = made(0, 51, 0, 105);
        add(call, 0, 47, 10, 30, 24, 0);
        due("a call", call.far(1, 0, 4, true), 1);
        due("a hidden one", call.far(1, 0, 5, false), 5);
        due("in the other function", call.far(1, 0, 1, false), 5);
        Mutagenry relation = made(2, 47, 18, 0, 1);
        due("both, not so", relation.far(0, number(3, 5, 0), 1, false), 1);
    }

    private static void climb() {
        promise = 38;
        Mutagenry works = made(2, 45, 42, 16, 0, 105, 42, 14, 1, 94, 47, 103, 46);
        due("5 for the first", works.climb(0, 2, true), number(5, 0, 0));
        due("unlike at once", works.climb(0, 2, false), number(0, 0, 0));
        fails("the second is not come to", NONE, () -> works.climb(0, 6, true));
        Mutagenry two = made(2, 42, 18, 16, 0, 98, 16, 1, 103, 45, 46);
        due("down to -2", two.climb(0, 2, true), number(-2, 0, 0));
        due("up to 3", two.climb(0, 5, true), number(0, 3, 0));
        fails("no slope of both", NONE, () -> two.climb(0, 1, true));
        Mutagenry ties = made(2, 42, 17, 12, 0, 0, 12, 1, 1, 45, 46);
        due("1 more of the first is first", ties.climb(0, 1, true), number(1, 0, 0));
        Mutagenry sum = made(2, 42, 16, 10, 0, 1, 104, 45, 46);
        due("the first one of several", sum.climb(0, 1, true), number(4, 0, 0));
        Mutagenry less = made(3, 42, 15, 10, 0, 106, 2, 45, 46);
        due("1 less of the first ahead of 1 more of the third", less.climb(0, 1, true), number(-6, 0, 0));
        Mutagenry least = made(2, 42, 16, 10, 0, 12, 1, 102, 104, 45, 46);
        due("the least distance is taken", least.climb(0, 1, true), number(0, 2, 0));
        Mutagenry round = made(1, 42, 16, 12, 0, 102, 92, 45, 46);
        due("by 1 less to -4", round.climb(0, 1, true), number(-4, 0, 0));
        due("of none", made(0, 47, 103).climb(0, 1, true), number(0, 0, 0));
        fails("of none, not so", NONE, () -> made(0, 47, 103).climb(0, 1, false));
        fails("a statement", UNSUPPORTED, () -> works.climb(0, 0, true));
        fails("no place", INDEX, () -> works.climb(0, 99, true));
        fails("no place -1", INDEX, () -> works.climb(0, -1, true));
        fails("no function", INDEX, () -> works.climb(1, 2, true));
        fails("no function -1", INDEX, () -> works.climb(-1, 2, true));
    }

    private static Mutagenry leaning() {
        Mutagenry works = made(1, 45, 51, 0, 10, 24, 0, 0, 47, 24, 0, 46);
        add(works, 0, 47, 24, 0);
        add(works, 0, 47, 103);
        works.addTest(0, given(2));
        works.addTest(0, given(0));
        works.addTest(1, 0);
        works.addTest(2, 0);
        return works;
    }

    private static void after() {
        promise = 39;
        Mutagenry works = leaning();
        due("behind the same one", works.after(0, 0), 4);
        due("behind one that leaves 0", works.after(0, 1), 2);
        due("0 behind 2", works.after(1, 0), 2);
        due("read behind 2", works.after(2, 0), 2);
        due("read behind itself", works.after(2, 2), 0);
        due("3 behind 2", works.after(3, 0), 3);
        due("the one ahead begins with 0", works.after(2, 0), 2);
        add(works, 0, 45, 51, 0, 105, 44, 101, 45, 46, 46);
        works.addTest(3, 0);
        due("behind one that passes the limit", works.after(2, 4), 5);
        change(works, 3, 45, 51, 0, 106, 48, 100, 46);
        due("behind one that throws", works.after(2, 4), 6);
        fails("-1", INDEX, () -> works.after(-1, 0));
        fails("5", INDEX, () -> works.after(5, 0));
        fails("behind -1", INDEX, () -> works.after(0, -1));
        fails("behind 5", INDEX, () -> works.after(0, 5));
    }

    private static void leans() {
        promise = 40;
        Mutagenry works = leaning();
        due("the first one: no other one leaves a sum", works.leans(0), false);
        due("the second one", works.leans(1), true);
        due("the third one", works.leans(2), true);
        due("the last one", works.leans(3), false);
        fails("-1", INDEX, () -> works.leans(-1));
        fails("4", INDEX, () -> works.leans(4));
        works.addTest(0, given(2));
        due("behind another one of the same arguments", works.leans(0), true);
        Mutagenry one = made(0, 45, 51, 0, 10, 24, 0, 101, 47, 24, 0, 46);
        one.addTest(0, 0);
        due("without another one", one.leans(0), false);
    }

    private static void prediction() {
        promise = 41;
        Mutagenry works = made(2, 43, 14, 1, 0, 47, 0, 47, 105);
        for (char operator : "carluvns".toCharArray()) {
            due(operator + " at first", works.prediction(operator), 0.5f);
        }
        works.addTest(0, number(3, 1, 0));
        works.addTest(0, number(2, 2, 0));
        change(works, 0, 47, 0);
        due("c", works.prediction('c'), 4f / 5f);
        due("r", works.prediction('r'), 3f / 5f);
        due("v", works.prediction('v'), 4f / 5f);
        due("n", works.prediction('n'), 2f / 3f);
        due("s", works.prediction('s'), 3f / 4f);
        due("a", works.prediction('a'), 1f / 2f);
        fails("x", ARGUMENT, () -> works.prediction('x'));
        fails("S", ARGUMENT, () -> works.prediction('S'));
    }

    private static void counted() {
        promise = 42;
        Mutagenry works = made(2, 43, 14, 1, 0, 47, 0, 47, 105);
        works.addTest(0, number(3, 1, 0));
        works.addTest(0, number(2, 2, 0));
        due("nothing so far", works.counted('c', false), 0);
        works.setOperator('s', false);
        change(works, 0, 47, 0);
        String all = "";
        String killed = "";
        for (char operator : "carluvns".toCharArray()) {
            all += works.counted(operator, false);
            killed += works.counted(operator, true);
        }
        due("all", all, "30300310");
        due("killed", killed, "30200310");
        change(works, 0, 47, 103);
        due("v of the second one", works.counted('v', false), 4);
        due("v killed", works.counted('v', true), 5 - 1);
        change(works, 0, 47, 103);
        due("c of the third one", works.counted('c', false), 6);
        due("c killed", works.counted('c', true), 6);
        fails("x", ARGUMENT, () -> works.counted('x', false));
        fails("0", ARGUMENT, () -> works.counted((char) 0, true));
        Mutagenry untested = made(0, 47, 103);
        change(untested, 0, 47, 103);
        due("without tests", untested.counted('c', false), 3);
        due("without tests, killed", untested.counted('c', true), 0);
        type(untested, 47);
        fails("a wrong row", UNSUPPORTED, () -> untested.change(0));
        due("counts nothing", untested.counted('c', false), 3);
    }

    private static void addOracle() {
        promise = 43;
        Mutagenry works = made(2, 47, 0);
        add(works, 1, 47, 0);
        add(works, 2, 47, 1);
        fails("no kind", ARGUMENT, () -> works.addOracle('x', 0, 0));
        fails("no kind, no function", ARGUMENT, () -> works.addOracle('P', 9, 0));
        fails("no function", INDEX, () -> works.addOracle('p', 3, 0));
        fails("no function -1", INDEX, () -> works.addOracle('d', -1, 0));
        fails("no peer", INDEX, () -> works.addOracle('d', 0, 3));
        fails("no peer -1", INDEX, () -> works.addOracle('d', 0, -1));
        fails("c of one parameter", UNSUPPORTED, () -> works.addOracle('c', 1, 0));
        fails("d of unlike ones", UNSUPPORTED, () -> works.addOracle('d', 0, 1));
        due("p, whatever the peer", works.addOracle('p', 1, -7), 0);
        due("z", works.addOracle('z', 1, 99), 1);
        due("c", works.addOracle('c', 0, 99), 2);
        due("d", works.addOracle('d', 0, 2), 3);
        due("d of itself", works.addOracle('d', 1, 1), 4);
        for (int i = 5; i < 8; i++) {
            due("oracle " + i, works.addOracle('p', 0, 0), i);
        }
        fails("the ninth", STATE, () -> works.addOracle('p', 0, 0));
        fails("the ninth, unlike", UNSUPPORTED, () -> works.addOracle('d', 0, 1));
        fails("the ninth, no function", INDEX, () -> works.addOracle('p', 4, 0));
        fails("the ninth, no kind", ARGUMENT, () -> works.addOracle('q', 0, 0));
    }

    private static void holds() {
        promise = 44;
        // the quotient of both, without end for 7 and 7
        Mutagenry works = made(2, 45, 44, 18, 16, 0, 107, 16, 1, 107, 45, 46, 47, 13, 0, 1, 46);
        add(works, 2, 47, 13, 1, 0);
        works.addOracle('p', 0, 0);
        works.addOracle('z', 0, 0);
        works.addOracle('c', 0, 0);
        works.addOracle('d', 0, 1);
        works.addOracle('p', 1, 1);
        due("no tests", works.holds(0), 0);
        int[][] tests = {{4, 2}, {4, -2}, {0, 3}, {3, 0}, {0, 0}, {7, 7}, {3, 3}, {-3, 3}};
        for (int[] test : tests) {
            works.addTest(0, number(test[0], test[1], 0));
        }
        due("p", works.holds(0), 3);
        due("z", works.holds(1), 5);
        due("c", works.holds(2), 3);
        due("d", works.holds(3), 3);
        due("of tests of its function", works.holds(4), 0);
        Mutagenry hidden = made(2, 45, 51, 0, 10, 24, 0, 10, 0, 1, 47, 24, 0, 46);
        hidden.addOracle('c', 0, 0);
        hidden.addOracle('d', 0, 0);
        hidden.addTest(0, number(1, 2, 0));
        due("hidden ones begin with 0 as they are exchanged", hidden.holds(0), 1);
        due("hidden ones begin with 0 for the peer", hidden.holds(1), 1);
        works.addTest(1, number(4, 2, 0));
        due("one test", works.holds(4), 1);
        fails("-1", INDEX, () -> works.holds(-1));
        fails("5", INDEX, () -> works.holds(5));
    }

    private static void oracleKills() {
        promise = 45;
        Mutagenry works = made(2, 47, 12, 0, 1);
        add(works, 2, 47, 12, 1, 0);
        only(works, "as");
        works.setFunction(1, false);
        due("mutants", listed(works), "0s47 1a10 1a11 1a13");
        works.addOracle('p', 0, 0);
        works.addOracle('z', 0, 0);
        works.addOracle('c', 0, 0);
        works.addOracle('d', 0, 1);
        works.addOracle('p', 1, 0);
        works.addTest(0, number(2, 3, 0));
        works.addTest(0, number(2, 0, 0));
        works.addTest(0, number(-3, 2, 0));
        works.addTest(1, number(2, 3, 0));
        int[][] due = {{0, 0, 1, 2}, {0, 0, 0, 2}, {0, 0, 7, 7}, {5, 7, 7, 7}, {0, 0, 0, 0}};
        for (int oracle = 0; oracle < 5; oracle++) {
            for (int mutant = 0; mutant < 4; mutant++) {
                due("oracle " + oracle + ", mutant " + mutant, works.oracleKills(oracle, mutant), due[oracle][mutant]);
            }
        }
        fails("oracle -1", INDEX, () -> works.oracleKills(-1, 0));
        fails("oracle 5", INDEX, () -> works.oracleKills(5, 0));
        fails("mutant -1", INDEX, () -> works.oracleKills(0, -1));
        fails("mutant 4", INDEX, () -> works.oracleKills(0, 4));
        Mutagenry endless = made(1, 45, 44, 14, 0, 100, 40, 0, 10, 0, 101, 47, 0, 46);
        only(endless, "n");
        endless.addOracle('z', 0, 0);
        endless.addTest(0, given(-1));
        endless.addTest(0, given(1));
        due("999 holds never", endless.oracleKills(0, 0), 0);
        only(endless, "s");
        due("a loop of nothing", endless.oracleKills(0, 0), 1);
    }

    private static Mutagenry five() {
        Mutagenry works = made(1, 45, 40, 1, 0, 40, 2, 0, 40, 3, 0, 40, 4, 0, 47, 1, 46);
        only(works, "s");
        works.addTest(0, given(3));
        return works;
    }

    private static void sample() {
        promise = 46;
        Mutagenry works = five();
        due("killed ones", works.kills(0) + works.kills(1) + works.kills(2) + works.kills(3) + works.kills(4), 2);
        for (int seed : new int[] {0, 1, -1, 77, 123456789, Integer.MIN_VALUE, Integer.MAX_VALUE}) {
            for (int many = 1; many <= 5; many++) {
                due("seed " + seed + ", " + many, works.sample(seed, many), drawn(seed, many));
            }
        }
        fails("0", ARGUMENT, () -> works.sample(0, 0));
        fails("-1", ARGUMENT, () -> works.sample(0, -1));
        fails("6", ARGUMENT, () -> works.sample(0, 6));
        only(works, "");
        fails("of none", ARGUMENT, () -> works.sample(0, 1));
    }

    // Of five mutants the first and the last one are killed.
    private static int drawn(int seed, int many) {
        int[] order = {0, 1, 2, 3, 4};
        long z = seed & 0xffffffffL;
        int found = 0;
        for (int k = 0; k < many; k++) {
            z = (1103515245L * z + 12345L) % 4294967296L;
            int with = k + (int) (z / 65536) % (5 - k);
            int kept = order[k];
            order[k] = order[with];
            order[with] = kept;
            found += order[k] == 0 || order[k] == 4 ? 1 : 0;
        }
        return found;
    }

    private static void bound() {
        promise = 47;
        Mutagenry works = five();
        // samples of 2 of 5: 10 in all, one in 20 is half of one
        for (int seed = 0; seed < 12; seed++) {
            int one = works.sample(seed, 1);
            int two = works.sample(seed, 2);
            due("of one, seed " + seed, works.bound(seed, 1), one);
            due("of two, seed " + seed, works.bound(seed, 2), two);
            due("of all, seed " + seed, works.bound(seed, 5), 2);
        }
        Mutagenry many = new Mutagenry();
        int[] row = new int[90];
        row[0] = 45;
        for (int i = 0; i < 29; i++) {
            row[1 + 3 * i] = 40;
            row[2 + 3 * i] = 1;
            row[3 + 3 * i] = 100;
        }
        row[88] = 46;
        int[] cut = java.util.Arrays.copyOf(row, 89);
        add(many, 0, cut);
        only(many, "s");
        due("29 mutants", many.mutants(), 29);
        due("none of 20 is killed", many.bound(5, 20), 0);
        add(many, 0, 45, 40, 0, 101, 47, 0, 46);
        many.setFunction(0, false);
        many.addTest(1, 0);
        due("both are killed", many.bound(1, 2), 2);
        many.setFunction(0, true);
        due("31 mutants", many.mutants(), 31);
        // 20 * C(31 - K, 30 - 1).. : with 30 of 31 drawn the killed ones are missed by one in 31 each
        int found = many.sample(9, 30);
        due("30 of 31", many.bound(9, 30), found);
        add(many, 0, java.util.Arrays.copyOf(cut, cut.length));
        due("60 mutants", many.mutants(), 60);
        fails("more than 50", UNSUPPORTED, () -> many.bound(0, 1));
        fails("more than 50, none drawn", ARGUMENT, () -> many.bound(0, 0));
        fails("more than 50, 61 drawn", ARGUMENT, () -> many.bound(0, 61));
        fails("0", ARGUMENT, () -> works.bound(0, 0));
        fails("6", ARGUMENT, () -> works.bound(0, 6));
        fifty();
    }

    // 50 mutants, all killed, by the cells that are added up: samples of 25 with 25 killed ones.
    private static void fifty() {
        Mutagenry works = new Mutagenry();
        int[] row = new int[90];
        for (int i = 0; i < 88; i++) {
            row[i + 1] = i % 2 == 0 ? 10 : 101;
        }
        row[0] = 47;
        row[89] = 101;
        add(works, 0, row);
        add(works, 0, 47, 10, 101, 10, 101, 101);
        only(works, "c");
        due("45 and 3 numbers, two each", works.mutants(), 96);
        works.setFunction(0, false);
        works.addTest(1, 0);
        due("6 of 6", works.bound(3, 6), 6);
        due("3 of 6, all killed: 1 of 20 samples", works.bound(3, 3), 3);
        Mutagenry fifty = new Mutagenry();
        int[] numbers = new int[50];
        numbers[0] = 47;
        for (int i = 0; i < 24; i++) {
            numbers[2 * i + 1] = 10;
            numbers[2 * i + 2] = 101;
        }
        numbers[49] = 101;
        add(fifty, 0, numbers);
        only(fifty, "c");
        fifty.addTest(0, 0);
        due("50 mutants", fifty.mutants(), 50);
        due("all are killed", fifty.meanKills(), 1.0);
        // C(K, 25) * 20 >= C(50, 25): K = 48 has 0.245 of all, 45 has 0.025, 46 has 0.0549
        due("25 of 25", fifty.bound(11, 25), 46);
        // C(K, 1) * 20 >= 50
        due("1 of 1", fifty.bound(11, 1), 3);
        // C(K, 2) * 20 >= 1225: K = 12 has 66
        due("2 of 2", fifty.bound(11, 2), 12);
        due("50 of 50", fifty.bound(11, 50), 50);
        due("49 of 49", fifty.bound(11, 49), 50);
    }

    private static void functions() {
        promise = 48;
        Mutagenry works = new Mutagenry();
        for (int i = 0; i < 4; i++) {
            due(i + " functions", works.functions(), i);
            add(works, i, 47, 100);
        }
        due("4", works.functions(), 4);
        type(works, 47, 100);
        fails("a fifth one", STATE, () -> works.define(0));
        due("4 still", works.functions(), 4);
        works.change(2);
        due("4 behind a change", works.functions(), 4);
    }

    private static void tests() {
        promise = 49;
        Mutagenry works = made(0, 47, 100);
        for (int i = 0; i < 16; i++) {
            due(i + " tests", works.tests(), i);
            works.addTest(0, 7);
        }
        fails("the 17th", STATE, () -> works.addTest(0, 7));
        due("16", works.tests(), 16);
        change(works, 0, 47, 101);
        due("16 behind a change", works.tests(), 16);
    }

    private static void changes() {
        promise = 50;
        Mutagenry works = made(0, 47, 100);
        due("none", works.changes(), 0);
        add(works, 0, 47, 100);
        due("a new one is none", works.changes(), 0);
        change(works, 1, 47, 100);
        due("one, of the same words", works.changes(), 1);
        change(works, 0, 47, 101);
        due("two", works.changes(), 2);
        type(works, 47);
        fails("a wrong one", UNSUPPORTED, () -> works.change(0));
        due("two still", works.changes(), 2);
    }

    private static void meanKills() {
        promise = 51;
        fails("none", ARITHMETIC, () -> new Mutagenry().meanKills());
        Mutagenry works = made(2, 43, 14, 1, 0, 47, 0, 47, 105);
        due("no tests", works.meanKills(), 0.0);
        works.addTest(0, number(3, 1, 0));
        works.addTest(0, number(2, 2, 0));
        due("two tests", works.meanKills(), 13.0 / 12.0);
        works.addTest(0, number(2, 2, 0));
        due("one of them twice", works.meanKills(), 20.0 / 12.0);
        only(works, "");
        fails("no mutants", ARITHMETIC, works::meanKills);
    }

    private static void isSound() {
        promise = 52;
        due("a new one", new Mutagenry().isSound(), true);
        Mutagenry works = made(2, 43, 14, 1, 0, 47, 0, 47, 105);
        due("no tests", works.isSound(), true);
        for (int i = 0; i < 16; i++) {
            works.addTest(0, 251 * i);
        }
        due("16 tests", works.isSound(), true);
        works.setLimit(10);
        due("another limit", works.isSound(), true);
        Mutagenry hidden = leaning();
        due("tests that lean", hidden.isSound(), true);
        change(hidden, 0, 44, 101, 51, 0, 24, 0);
        due("without end", hidden.isSound(), true);
        Mutagenry calls = made(1, 45, 51, 1, 10, 24, 1, 0, 49, 47, 10, 30, 11, 0, 101, 13, 104, 0, 2, 47, 24, 1, 46);
        calls.addTest(0, given(3));
        calls.addTest(0, given(-3));
        due("calls that throw", calls.isSound(), true);
    }
}
