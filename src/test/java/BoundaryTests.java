import java.util.ArrayList;
import java.util.List;

/** The boundary cases that the document names under "Terms" and behind "Returns", one sentence each. */
public final class BoundaryTests {
    private static int passed;
    private static int failed;
    private static int sentences;
    private static String sentence = "";

    private static final int ZEROS = 0x888;
    private static final String OPERATORS = "carluvns";

    public static void main(String[] args) {
        wordsAndFunctions();
        statements();
        expressions();
        thrownAndCalls();
        stepsAndOutcomes();
        places();
        operators();
        mutantsInAll();
        testsAndLimits();
        infection();
        sharedRuns();
        likes();
        killsAndSets();
        pairs();
        inputs();
        hiddenStateAndChanges();
        oracles();
        samples();
        counts();
        System.out.println("boundaries: " + sentences + " sentences, " + passed + " checks passed, " + failed
                + " failed");
        if (failed != 0) {
            System.exit(1);
        }
    }

    // ------------------------------------------------------------------ helpers

    private static void says(String text) {
        sentence = text;
        sentences++;
    }

    private static void due(String what, Object got, Object want) {
        if (got.equals(want)) {
            passed++;
        } else {
            failed++;
            System.out.println("\"" + sentence + "\": " + what + " answered " + got + ", due is " + want);
        }
    }

    private static void type(Mutagenry works, int... words) {
        for (int word : words) {
            works.type(word);
        }
    }

    private static int add(Mutagenry works, int parameters, int... words) {
        works.erase();
        type(works, words);
        return works.define(parameters);
    }

    private static int change(Mutagenry works, int function, int... words) {
        works.erase();
        type(works, words);
        return works.change(function);
    }

    private static Mutagenry made(int parameters, int... words) {
        Mutagenry works = new Mutagenry();
        add(works, parameters, words);
        return works;
    }

    private static int number(int first, int second, int third) {
        return 256 * (first + 8) + 16 * (second + 8) + third + 8;
    }

    private static int given(int first) {
        return number(first, 0, 0);
    }

    private static int wrong(int parameters, int... words) {
        Mutagenry works = new Mutagenry();
        type(works, words);
        return works.wrongAt(parameters);
    }

    private static int[] joined(int[]... parts) {
        List<Integer> all = new ArrayList<>();
        for (int[] part : parts) {
            for (int word : part) {
                all.add(word);
            }
        }
        return all.stream().mapToInt(Integer::intValue).toArray();
    }

    private static int[] words(int... words) {
        return words;
    }

    private static int[] times(int many, int... part) {
        int[] all = new int[0];
        for (int i = 0; i < many; i++) {
            all = joined(all, part);
        }
        return all;
    }

    private static int valueOf(int... expression) {
        return made(0, joined(words(47), expression)).outcome(0, 0);
    }

    private static int outcomeOf(int... statement) {
        return made(0, statement).outcome(0, 0);
    }

    private static int stepsOf(int... statement) {
        return made(0, statement).steps(0, 0);
    }

    private static Mutagenry only(String operators, Mutagenry works) {
        for (char operator : OPERATORS.toCharArray()) {
            works.setOperator(operator, operators.indexOf(operator) >= 0);
        }
        return works;
    }

    private static String listed(Mutagenry works) {
        StringBuilder text = new StringBuilder();
        for (int i = 0; i < works.mutants(); i++) {
            text.append(i == 0 ? "" : " ").append(works.placeOf(i)).append(works.operatorOf(i))
                    .append(works.mutatedWord(i));
        }
        return text.toString();
    }

    private static String told(Mutagenry works, int test) {
        StringBuilder text = new StringBuilder();
        for (int i = 0; i < works.mutants(); i++) {
            text.append(works.told(i, test));
        }
        return text.toString();
    }

    private static String likesOf(Mutagenry works) {
        StringBuilder text = new StringBuilder();
        for (int i = 0; i < works.mutants(); i++) {
            text.append(works.isLike(i));
        }
        return text.toString();
    }

    private static String killsOf(Mutagenry works) {
        StringBuilder text = new StringBuilder();
        for (int i = 0; i < works.mutants(); i++) {
            text.append(i == 0 ? "" : " ").append(works.kills(i));
        }
        return text.toString();
    }

    // ------------------------------------------------------------------ words and functions

    private static void wordsAndFunctions() {
        says("Values are whole numbers from -8 to 7, and go round beyond");
        due("7 + 1", valueOf(10, 107, 101), -8);
        due("7 + 0", valueOf(10, 107, 100), 7);
        due("7 + 7", valueOf(10, 107, 107), -2);
        due("-8 + -1", valueOf(10, 92, 99), 7);
        due("-8 + -8", valueOf(10, 92, 92), 0);
        due("-8 - 1", valueOf(11, 92, 101), 7);
        due("-7 - 1", valueOf(11, 93, 101), -8);
        due("7 - -1", valueOf(11, 107, 99), -8);
        due("7 - -8", valueOf(11, 107, 92), -1);
        due("4 * 2", valueOf(12, 104, 102), -8);
        due("-4 * 2", valueOf(12, 96, 102), -8);
        due("7 * 7", valueOf(12, 107, 107), 1);
        due("7 * -8", valueOf(12, 107, 92), -8);
        due("-8 * -8", valueOf(12, 92, 92), 0);
        due("-8 / -1", valueOf(13, 92, 99), -8);
        due("-(-8)", valueOf(20, 92), -8);
        due("-(-7)", valueOf(20, 93), 7);
        due("-7", valueOf(20, 107), -7);
        says("At most 4 functions are numbered from 0");
        Mutagenry four = new Mutagenry();
        for (int i = 0; i < 4; i++) {
            due("function " + i, add(four, i, 47, 100 + i), i);
        }
        for (int i = 0; i < 4; i++) {
            due("outcome of " + i, four.outcome(i, 0), i);
        }
        parametersAndVariables();
        rows();
    }

    private static void parametersAndVariables() {
        says("each has 0 to 3 parameters, the variables 0 to 7, of which the first ones are the parameters");
        for (int parameters = 0; parameters <= 3; parameters++) {
            for (int variable = 0; variable <= 7; variable++) {
                int want = variable < parameters ? new int[] {7, -8, 3}[variable] : 0;
                due(parameters + " parameters, variable " + variable,
                        made(parameters, 47, variable).outcome(0, number(7, -8, 3)), want);
            }
        }
        says("(the variables are) 0 otherwise as it is called");
        for (int variable = 1; variable <= 7; variable++) {
            Mutagenry works = made(1, 43, 0, 45, 40, variable, 105, 47, 30, 100, 46, 47, variable);
            due("variable " + variable + " of a second call", works.outcome(0, given(1)), 0);
            due("of a second run", works.outcome(0, given(0)), 0);
        }
        says("and a row of 4 cells, 0 likewise");
        for (int cell = 0; cell < 4; cell++) {
            Mutagenry works = made(1, 43, 0, 45, 41, 100 + cell, 105, 47, 30, 100, 46, 47, 22, 100 + cell);
            due("cell " + cell + " of a second call", works.outcome(0, given(1)), 0);
            due("of a second run", works.outcome(0, given(0)), 0);
            due("what it got", made(0, 45, 41, 100 + cell, 105, 47, 22, 100 + cell, 46).outcome(0, 0), 5);
            due("behind a call", made(1, 43, 0, 45, 41, 100 + cell, 105, 40, 1, 30, 100, 47, 22, 100 + cell, 46,
                    41, 100 + cell, 102).outcome(0, given(1)), 5);
        }
        // each call keeps its parameter in a cell and a variable, and looks at both behind the call of 1 less
        Mutagenry own = made(1, joined(words(45, 42, 21, 0, 47, 100, 41, 103, 0, 40, 7, 0, 40, 1, 30, 11, 0, 101),
                words(42, 17, 22, 103, 0, 48, 101, 42, 17, 7, 0, 48, 102, 47, 10, 1, 101, 46)));
        due("each of 8 calls has its own", own.outcome(0, given(7)), 7);
        due("each of 12 calls has its own", own.outcome(0, given(-5)) + " " + own.steps(0, given(-5)), "-5 91");
        due("a 13th has none", own.outcome(0, given(-4)), 103);
        for (int i = 0; i < 4; i++) {
            Mutagenry next = made(1, 43, 0, 45, 41, 100 + i, 105, 40, 1 + i, 105, 46, 47, 10, 22, 100 + i, 1 + i);
            add(next, 0, 47, 10, 30, 101, 10, 30, 100, 10, 30, 101, 30, 100);
            due("cell " + i + " of a call behind another one", next.outcome(1, 0), 0);
        }
        says("All share the hidden ones 0 to 3");
        for (int hidden = 0; hidden < 4; hidden++) {
            Mutagenry works = made(0, 51, hidden, 105);
            add(works, 0, 45, 40, 0, 30, 47, 24, hidden, 46);
            due("hidden " + hidden, works.outcome(1, 0), 5);
            due("another one", made(0, 45, 51, hidden, 105, 47, 24, hidden + 1 & 3, 46).outcome(0, 0), 0);
        }
    }

    private static void rows() {
        says("A function is defined by the row of words, 1 to 90, which is one statement");
        due("no word", wrong(0), 0);
        int[] ninety = joined(words(47), times(44, 10), times(45, 101));
        due("words", ninety.length, 90);
        due("90 words", wrong(0, ninety), -1);
        due("45 is -3", made(0, ninety).outcome(0, 0), -3);
        due("places of 90 words", made(0, ninety).places(), 90);
        due("two statements", wrong(0, 45, 46, 45, 46), 2);
        due("an expression", wrong(1, 0), 0);
        says("Returns the index of the first word that does not fit, or how many words it has if something lacks; -1");
        due("all 90 fit, one more is asked for", wrong(0, joined(words(47), times(45, 10), times(44, 101))), 90);
        due("44 lists in one", wrong(0, joined(words(45), times(44, 45, 46), words(46))), -1);
        due("45 lists in none", wrong(0, times(45, 45, 46)), 2);
        due("the last of 90 does not fit", wrong(0, joined(words(47), times(44, 10), times(44, 101), words(46))), 89);
        due("the first does not fit", wrong(0, 46), 0);
        due("the first of several wrong ones", wrong(0, 47, 8, 8, 8), 1);
        due("one lacks, of one", wrong(0, 45), 1);
        due("right", wrong(0, 45, 46), -1);
        due("wrong as that of 0 parameters", wrong(0, 47, 30, 100), 2);
        due("right as that of 1", wrong(1, 47, 30, 100), -1);
        due("lacking as that of 2", wrong(2, 47, 30, 100), 3);
        emptiedRows();
    }

    private static void emptiedRows() {
        says("erase: Takes all words out of the row; Returns how many there were");
        Mutagenry works = new Mutagenry();
        due("none", works.erase(), 0);
        type(works, joined(words(47), times(44, 10), times(45, 101)));
        due("90", works.erase(), 90);
        due("none again", works.erase() + " " + works.wrongAt(0), "0 0");
        says("define: by the row, which is empty then; it may call itself");
        type(works, 43, 0, 47, 30, 11, 0, 101, 47, 105);
        due("the number", works.define(1), 0);
        due("empty then", works.erase() + " " + works.wrongAt(1), "0 0");
        due("it calls itself", works.outcome(0, given(7)) + " " + works.steps(0, given(7)), "5 16");
        type(works, 43, 0, 47, 31, 11, 0, 101, 47, 30, 0);
        due("the next number", works.define(1), 1);
        due("it calls itself and the first one", works.outcome(1, given(7)), 5);
        says("change: by the row, which is empty then, with as many parameters");
        type(works, 43, 0, 47, 30, 11, 0, 101, 47, 106);
        due("one change", works.change(0), 1);
        due("empty then, too", works.erase() + " " + works.wrongAt(1), "0 0");
        due("both functions", works.outcome(0, given(7)) + " " + works.outcome(1, given(7)), "6 6");
        type(works, 47, 31, 1);
        due("one parameter, and one that calls back", works.change(0) + " " + works.outcome(0, given(7)), "2 103");
        due("functions", works.functions(), 2);
    }

    private static void statements() {
        says("A statement is: 40, 41, 42, 43, 44, 45, 47, 48, 49, 51");
        for (int word = 0; word <= 107; word++) {
            boolean is = word >= 40 && word <= 51 && word != 46 && word != 50;
            due("word " + word, wrong(3, word), is ? 1 : 0);
        }
        says("40, a variable; 49, a statement, a variable; 51, a hidden one; 24 and a hidden one: it");
        for (int word = 0; word <= 107; word++) {
            due("40, " + word, wrong(0, 40, word, 100), word <= 7 ? -1 : 1);
            due("49, .., " + word, wrong(0, 49, 45, 46, word, 45, 46), word <= 7 ? -1 : 3);
            due("51, " + word, wrong(0, 51, word, 100), word <= 3 ? -1 : 1);
            due("24, " + word, wrong(0, 47, 24, word), word <= 3 ? -1 : 2);
        }
        says("42: if it is not 0; 43: the first one if it is not 0, otherwise the second one");
        for (int value = -8; value <= 7; value++) {
            due("42, " + value, outcomeOf(45, 42, 100 + value, 47, 101, 47, 102, 46), value != 0 ? 1 : 2);
            due("43, " + value, outcomeOf(43, 100 + value, 47, 101, 47, 102), value != 0 ? 1 : 2);
        }
        says("44: as long as it is not 0");
        for (int value = -8; value <= 7; value++) {
            due("rounds of " + value, made(1, 45, 44, 0, 45, 40, 0, 11, 0, 101, 40, 1, 10, 1, 101, 46, 47, 1, 46)
                    .outcome(0, given(value)), value);
        }
        says("45, statements, perhaps none, 46: all of them");
        due("none", outcomeOf(45, 46), 0);
        due("one", outcomeOf(45, 47, 101, 46), 1);
        due("17 of them", outcomeOf(joined(words(45), times(16, 40, 1, 10, 1, 101), words(47, 10, 1, 103, 46))), 3);
        due("none in one", outcomeOf(45, 45, 46, 45, 45, 46, 46, 46), 0);
        says("49: if the first one throws, the variable gets what was thrown, and the second one is done");
        for (int value = -8; value <= 7; value++) {
            for (int variable = 0; variable <= 7; variable += 7) {
                due("thrown " + value, outcomeOf(49, 48, 100 + value, variable, 47, variable), value);
            }
        }
        due("nothing is thrown, the variable stays", outcomeOf(45, 40, 2, 105, 49, 45, 46, 2, 45, 46, 47, 2, 46), 5);
        due("nothing is thrown, the second one is left out", outcomeOf(45, 49, 45, 46, 2, 48, 101, 47, 102, 46), 2);
        due("0 is thrown as well", outcomeOf(45, 40, 2, 105, 49, 48, 100, 2, 47, 10, 2, 104, 46), 4);
        due("the second one is not judged", outcomeOf(49, 48, 101, 2, 48, 10, 2, 101), 102);
    }

    // ------------------------------------------------------------------ expressions

    private static void expressions() {
        says("An expression is: a variable, 0 to 7; a number n as 100 + n, 92 to 107; 10 to 22; 24; 30 + f");
        for (int word = 0; word <= 107; word++) {
            boolean isWhole = word <= 7 || word >= 92;
            boolean isPart = word >= 10 && word <= 22 || word == 24 || word == 30;
            due("word " + word, wrong(1, 47, word), isWhole ? -1 : isPart ? 2 : 1);
        }
        for (int value = -8; value <= 7; value++) {
            due("number " + value, valueOf(100 + value), value);
        }
        says("10 to 22: so many expressions");
        for (int word = 10; word <= 22; word++) {
            due("one of " + word, wrong(0, 47, word, 100), word < 20 ? 3 : -1);
            due("two of " + word, wrong(0, 47, word, 100, 100), word < 20 ? -1 : 3);
        }
        says("their quotient cut toward 0");
        for (int first = -8; first <= 7; first++) {
            for (int second = -8; second <= 7; second++) {
                int amount = second == 0 ? 0 : Math.abs(first) / Math.abs(second);
                int cut = first < 0 == second < 0 ? amount : -amount;
                int want = second == 0 ? 101 : cut == 8 ? -8 : cut;
                due(first + " / " + second, valueOf(13, 100 + first, 100 + second), want);
            }
        }
        says("14 to 17: whether the first is less than, at most, the same as, unlike the second, 1 or 0");
        for (int first = -8; first <= 7; first++) {
            for (int second = -8; second <= 7; second++) {
                String is = "";
                for (int word = 14; word <= 17; word++) {
                    is += valueOf(word, 100 + first, 100 + second);
                }
                due(first + " and " + second, is, first < second ? "1101" : first == second ? "0110" : "0001");
            }
        }
        logic();
    }

    // The first function makes hidden 0 twice as much and its parameter more, and gives the parameter.
    private static Mutagenry counting() {
        return made(1, 45, 51, 0, 10, 12, 24, 0, 102, 0, 47, 0, 46);
    }

    private static int countedBy(int... statement) {
        Mutagenry works = counting();
        add(works, 2, 47, 100);
        add(works, 3, 47, 100);
        add(works, 0, joined(words(45), statement, words(47, 24, 0, 46)));
        return works.outcome(3, 0);
    }

    private static void logic() {
        says("18 and 19: whether both, or any, are not 0, both being found always");
        for (int first = -8; first <= 7; first += 1) {
            for (int second = -8; second <= 7; second += 4) {
                int both = first != 0 && second != 0 ? 1 : 0;
                int any = first != 0 || second != 0 ? 1 : 0;
                due(first + " both " + second, valueOf(18, 100 + first, 100 + second), both);
                due(first + " any " + second, valueOf(19, 100 + first, 100 + second), any);
            }
        }
        due("both, the first being 0", countedBy(40, 0, 18, 30, 100, 30, 101), 1);
        due("any, the first being 1", countedBy(40, 0, 19, 30, 101, 30, 101), 3);
        says("20 and 21: its negative; whether it is 0");
        for (int value = -8; value <= 7; value++) {
            due("negative of " + value, valueOf(20, 100 + value), value == -8 ? -8 : -value);
            due("whether 0 is " + value, valueOf(21, 100 + value), value == 0 ? 1 : 0);
        }
        says("30 + f and as many expressions as the function f has parameters: its result");
        Mutagenry works = made(0, 47, 101);
        add(works, 1, 47, 30);
        due("of 0", works.outcome(1, 0), 1);
        change(works, 1, 47, 0);
        add(works, 2, 47, 11, 0, 1);
        add(works, 3, 47, 11, 0, 11, 1, 2);
        change(works, 0, 47, 31, 102);
        due("of 1", works.outcome(0, 0), 2);
        change(works, 0, 47, 32, 102, 101);
        due("of 2", works.outcome(0, 0), 1);
        change(works, 0, 47, 33, 102, 101, 104);
        due("of 3", works.outcome(0, 0), 5);
        says("A function may call itself and those that are defined");
        for (int many = 0; many < 4; many++) {
            Mutagenry some = new Mutagenry();
            for (int i = 0; i < many; i++) {
                add(some, 0, 47, 100);
            }
            for (int f = 0; f < 8; f++) {
                some.erase();
                type(some, 47, 30 + f);
                due("30 + " + f + " of " + many, some.wrongAt(0), f <= many ? -1 : 1);
            }
        }
    }

    // ------------------------------------------------------------------ what is thrown, and calls

    private static void thrownAndCalls() {
        says("A quotient by 0 throws 1; these can be caught");
        due("7 / 0", valueOf(13, 107, 100), 101);
        due("0 / 0", valueOf(13, 100, 100), 101);
        due("0 / 1", valueOf(13, 100, 101), 0);
        due("caught", outcomeOf(49, 47, 13, 107, 100, 3, 47, 10, 3, 103), 4);
        says("a cell other than 0 to 3 throws 2; these can be caught");
        for (int cell = -8; cell <= 7; cell++) {
            boolean is = cell >= 0 && cell <= 3;
            due("read of " + cell, valueOf(22, 100 + cell), is ? 0 : 102);
            due("set of " + cell, outcomeOf(41, 100 + cell, 105), is ? 0 : 102);
            due("caught, " + cell, outcomeOf(49, 45, 41, 100 + cell, 105, 47, 22, 100 + cell, 46, 3, 47, 10, 3, 104),
                    is ? 5 : 6);
        }
        says("a call while 12 calls go on, the first one counted, throws 3; these can be caught");
        Mutagenry deep = made(2, 43, 10, 0, 1, 43, 0, 47, 30, 11, 0, 101, 1, 47, 30, 0, 11, 1, 101, 47, 107);
        due("12 calls", deep.outcome(0, number(7, 4, 0)), 7);
        due("a 13th", deep.outcome(0, number(7, 5, 0)), 103);
        due("caught by the 12th", outcomeOf(49, 47, 10, 101, 30, 3, 47, 3), -2);
        due("itself caught", outcomeOf(49, 47, 30, 3, 47, 3), 3);
        Mutagenry others = made(2, 43, 0, 47, 30, 11, 0, 101, 1, 47, 1);
        add(others, 2, 47, 10, 30, 0, 1, 10, 30, 0, 1, 30, 0, 1);
        due("8 calls thrice, one behind the other", others.outcome(1, number(7, 2, 0)), 6);
        add(others, 2, 43, 1, 47, 32, 0, 11, 1, 101, 47, 30, 0, 105);
        due("4 of one and 8 of another", others.outcome(2, number(7, 3, 0)), 5);
        due("5 of one and 8 of another", others.outcome(2, number(7, 4, 0)), 103);
        due("5 of one and 7 of another", others.outcome(2, number(6, 4, 0)), 5);
        says("A function that ends without returning gives 0");
        due("an empty list", outcomeOf(45, 46), 0);
        due("a set variable", outcomeOf(40, 0, 105), 0);
        due("not so", outcomeOf(42, 100, 47, 105), 0);
        due("something caught", outcomeOf(49, 48, 105, 0, 45, 46), 0);
        Mutagenry called = made(1, 42, 0, 47, 105);
        add(called, 0, 47, 10, 30, 100, 101);
        due("through a call", called.outcome(1, 0), 1);
        ordered();
    }

    private static void ordered() {
        says("Parts are done in the order of their words");
        due("of a sum", countedBy(40, 0, 10, 30, 101, 30, 100), 2);
        due("of a relation", countedBy(40, 0, 14, 30, 101, 30, 100), 2);
        due("of a cell and what it gets", countedBy(41, 30, 101, 30, 100), 2);
        due("of the arguments of a call", countedBy(40, 0, 32, 30, 101, 30, 101, 30, 100), 6);
        due("of two arguments", countedBy(40, 0, 31, 30, 101, 30, 100), 2);
        due("of a list", countedBy(40, 0, 30, 101, 40, 0, 30, 100), 2);
        due("of what is asked, and done", countedBy(42, 30, 101, 40, 0, 30, 100), 2);
        due("the first part throws", valueOf(10, 22, 99, 13, 101, 100), 102);
        due("the second part throws, the first one being done", countedBy(49, 40, 0, 10, 30, 101, 13, 101, 100, 1,
                40, 0, 30, 100), 2);
        due("what is behind a throw is not done", countedBy(49, 40, 0, 10, 13, 101, 100, 30, 101, 1, 45, 46), 0);
        due("what the cell gets is found, and then it throws", outcomeOf(41, 104, 13, 101, 100), 101);
    }

    private static void stepsAndOutcomes() {
        says("A step is a statement that begins, and each finding of what a 44 asks");
        due("an empty list", stepsOf(45, 46), 1);
        due("46 is none", stepsOf(45, 45, 46, 45, 46, 46), 3);
        due("a return", stepsOf(47, 10, 101, 10, 101, 101), 1);
        due("42, so", stepsOf(42, 101, 45, 46), 2);
        due("42, not so", stepsOf(42, 100, 45, 46), 1);
        due("43 asks without a step", stepsOf(43, 100, 45, 46, 45, 46), 2);
        due("44 that asks once", stepsOf(44, 100, 45, 46), 2);
        due("44 that asks thrice", stepsOf(45, 40, 0, 102, 44, 0, 40, 0, 11, 0, 101, 46), 3 + 3 + 2);
        due("44 that throws as it asks", stepsOf(44, 13, 101, 100, 45, 46), 2);
        due("49, nothing thrown", stepsOf(49, 45, 46, 0, 45, 46), 2);
        due("49, thrown", stepsOf(49, 48, 101, 0, 45, 46), 3);
        says("A run ends .. as the limit of steps is passed, which is not caught; its outcome is a code: 999");
        int[] nine = joined(words(45), times(9, 45, 46), words(46));
        int[] ten = joined(words(45), times(10, 45, 46), words(46));
        Mutagenry works = made(0, nine);
        works.setLimit(10);
        due("10 steps", works.outcome(0, 0), 0);
        change(works, 0, ten);
        due("11 steps", works.outcome(0, 0), 999);
        change(works, 0, joined(words(49), ten, words(0, 47, 105)));
        due("it is not caught", works.outcome(0, 0), 999);
        change(works, 0, 49, 44, 101, 45, 46, 0, 47, 105);
        due("nor in a loop", works.outcome(0, 0), 999);
        due("a loop of nothing has steps", made(0, 44, 101, 45, 46).outcome(0, 0), 999);
        says("Returns the steps, the limit plus 1 if it is passed");
        for (int limit : new int[] {10, 11, 200, 399, 400}) {
            works.setLimit(limit);
            due("limit " + limit, works.steps(0, 0), limit + 1);
        }
        change(works, 0, nine);
        works.setLimit(10);
        due("just the limit", works.steps(0, 0), 10);
        says("its outcome is a code: the value, 100 plus the thrown value");
        for (int value = -8; value <= 7; value++) {
            due("returned " + value, outcomeOf(47, 100 + value), value);
            due("thrown " + value, outcomeOf(48, 100 + value), 100 + value);
        }
    }

    // ------------------------------------------------------------------ mutants

    private static void places() {
        says("Places are the statements and expressions, numbered through all functions, by the order of their words");
        due("no function", new Mutagenry().places(), 0);
        Mutagenry works = made(1, 45, 40, 7, 24, 3, 51, 0, 22, 0, 49, 45, 46, 7, 41, 100, 101, 46);
        add(works, 0, 47, 30, 12, 101, 102);
        int[] begin = {45, 40, 24, 51, 22, 0, 49, 45, 41, 100, 101, 47, 30, 12, 101, 102};
        due("places", works.places(), begin.length);
        for (int place = 0; place < begin.length; place++) {
            due("place " + place, works.wordOf(place), begin[place]);
        }
        change(works, 0, 45, 46);
        due("the first function has one place, then", works.places(), 6);
        due("that of the second one", works.wordOf(1), 47);
        add(works, 0, joined(words(47), times(44, 10), times(45, 101)));
        add(works, 0, joined(words(47), times(44, 10), times(45, 101)));
        change(works, 0, joined(words(47), times(44, 10), times(45, 101)));
        due("as many as there can be", works.places(), 90 + 5 + 90 + 90);
        due("the last one", works.wordOf(274), 101);
    }

    private static void operators() {
        says("'c' at a number: 1 more, 1 less, both going round, 0, those that are unlike it and each other");
        for (int n = -8; n <= 7; n++) {
            int more = n == 7 ? -8 : n + 1;
            int less = n == -8 ? 7 : n - 1;
            String want = "1c" + (100 + more) + " 1c" + (100 + less) + (n != 0 && more != 0 && less != 0 ? " 1c100" : "");
            due("number " + n, listed(only("c", made(0, 47, 100 + n))), want);
        }
        says("'a' at 10 to 13, 'r' at 14 to 17: each of the other three, rising; 'l' at 18 and 19: the other one");
        String[] others = {"1a11 1a12 1a13", "1a10 1a12 1a13", "1a10 1a11 1a13", "1a10 1a11 1a12",
            "1r15 1r16 1r17", "1r14 1r16 1r17", "1r14 1r15 1r17", "1r14 1r15 1r16", "1l19", "1l18"};
        for (int word = 10; word <= 19; word++) {
            due("word " + word, listed(only("carlu", made(0, 47, word, 0, 0))), others[word - 10]);
        }
        says("'u' at 20 and 21: what it is of alone");
        due("20", listed(only("u", made(0, 47, 20, 107))), "1u107");
        due("21", listed(only("u", made(0, 47, 21, 10, 0, 0))), "1u10");
        due("20 of 21", listed(only("u", made(0, 47, 20, 21, 24, 3))), "1u21 2u24");
        due("22 is none", only("u", made(0, 47, 22, 0)).mutants(), 0);
        Mutagenry alone = only("u", made(1, 47, 20, 21, 0));
        alone.addTest(0, given(5));
        due("21 of 5", alone.alone(0, 0), 0);
        due("20 of 5", alone.alone(1, 0), -5);
        variables();
        statementOperators();
    }

    private static void variables() {
        says("'v' at a variable that is read: each other one that occurs in the function .. rising");
        due("none other", only("v", made(1, 47, 0)).mutants(), 0);
        due("no variable that is read", only("v", made(3, 40, 7, 100)).mutants(), 0);
        due("read", listed(only("v", made(0, 47, 10, 7, 5))), "2v5 3v7");
        due("set by 40 alone", listed(only("v", made(0, 45, 40, 6, 100, 47, 4, 46))), "4v6");
        due("set by 40 and 49", listed(only("v", made(0, 45, 49, 40, 3, 101, 1, 45, 46, 47, 4, 46))), "6v1 6v3");
        due("set by 49 alone", listed(only("v", made(0, 45, 49, 45, 46, 1, 45, 46, 47, 4, 46))), "5v1");
        due("a parameter", listed(only("v", made(3, 47, 7))), "1v0 1v1 1v2");
        due("each of the eight", listed(only("v", made(3, 45, 40, 3, 100, 40, 7, 4, 49, 48, 5, 6, 47, 1, 46))),
                "4v0 4v1 4v2 4v3 4v5 4v6 4v7 7v0 7v1 7v2 7v3 7v4 7v6 7v7 9v0 9v2 9v3 9v4 9v5 9v6 9v7");
        due("hidden ones are none", only("v", made(1, 45, 51, 3, 24, 2, 47, 0, 46)).mutants(), 0);
        due("cells are none", only("v", made(1, 45, 41, 103, 102, 47, 0, 46)).mutants(), 0);
        Mutagenry two = made(1, 47, 0);
        add(two, 2, 47, 5);
        due("those of another function are none", listed(only("v", two)), "3v0 3v1");
        change(two, 1, 40, 7, 5);
        due("of the function as it is, behind a change", listed(two), "3v0 3v1 3v7");
    }

    private static void statementOperators() {
        says("'n' at 42, 43 and 44: what is asked is 0 where it is not, 1 where it is");
        Mutagenry asked = only("n", made(1, 45, 42, 0, 40, 1, 101, 43, 0, 40, 2, 102, 40, 3, 104, 47, 10, 1, 10, 2, 3,
                46));
        due("mutants", listed(asked), "1n42 5n43");
        for (int value : new int[] {-8, -1, 0, 1, 7}) {
            asked.addTest(0, given(value));
            int test = asked.tests() - 1;
            due("program of " + value, asked.expected(test), value == 0 ? 4 : 3);
            due("42 of " + value, asked.alone(0, test), value == 0 ? 5 : 2);
            due("43 of " + value, asked.alone(1, test), value == 0 ? 2 : 5);
        }
        Mutagenry loop = only("n", made(1, 45, 44, 0, 47, 101, 47, 102, 46));
        loop.addTest(0, given(0));
        loop.addTest(0, given(-8));
        due("44 of 0", loop.alone(0, 0), 1);
        due("44 of -8", loop.alone(0, 1), 2);
        says("'s' at 40, 41, 47, 48 and 51: it is left out, what it has in it, too, and is no step");
        due("each", listed(only("s", made(0, 45, 40, 0, 100, 41, 100, 100, 51, 0, 100, 42, 100, 48, 100, 44, 100, 43,
                100, 45, 46, 49, 45, 46, 0, 45, 46, 47, 100, 46))), "1s40 3s41 6s51 10s48 20s47");
        Mutagenry inner = counting();
        add(inner, 0, 45, 40, 0, 30, 101, 41, 30, 101, 100, 51, 1, 30, 101, 47, 24, 0, 46);
        only("s", inner);
        inner.setFunction(0, false);
        inner.addTest(1, 0);
        due("program", inner.expected(0), 7);
        due("40, 41 and 51 with what they have in them", inner.alone(0, 0) + " " + inner.alone(1, 0) + " "
                + inner.alone(2, 0), "3 3 3");
        due("a return", inner.alone(3, 0), 0);
        Mutagenry thrown = only("s", made(0, 45, 48, 13, 101, 100, 47, 105, 46));
        thrown.addTest(0, 0);
        due("a throw", thrown.alone(0, 0), 5);
        // 12 steps, with a limit of 11 or 10: without one of them there are 11
        Mutagenry steps = only("s", made(0, joined(words(45), times(11, 40, 1, 100), words(46))));
        steps.addTest(0, 0);
        steps.setLimit(11);
        due("11 steps", steps.alone(0, 0), 0);
        due("11 steps without the last one", steps.told(10, 0), 'k');
        steps.setLimit(10);
        due("11 steps are too many", steps.alone(0, 0), 999);
    }

    private static int[] numbers(int many, int number) {
        return joined(words(47), times(many - 1, 10), times(many, 100 + number));
    }

    private static void mutantsInAll() {
        says("150 at most, the first ones");
        Mutagenry works = made(0, numbers(45, 5));
        only("c", works);
        due("135", works.mutants(), 135);
        add(works, 0, numbers(5, 5));
        due("150", works.mutants(), 150);
        due("the last one is there", works.placeOf(149), 99);
        add(works, 0, numbers(1, 1));
        due("of 152", works.mutants(), 150);
        due("the last one is the same", works.placeOf(149), 99);
        change(works, 1, joined(numbers(4, 5)));
        due("of 149", works.mutants(), 149);
        due("two of the third one", works.placeOf(148) + " " + works.placeOf(147), "99 99");
        change(works, 1, joined(words(47, 10), times(3, 10), times(4, 105), words(101)));
        due("of 151", works.mutants(), 150);
        due("one of the third one", works.placeOf(149) + " " + works.placeOf(148), "101 99");
        works.setFunction(0, false);
        due("of 16", works.mutants(), 16);
        says("those of the operators that are told, all at first, and of the functions that are told, all at first");
        for (char operator : OPERATORS.toCharArray()) {
            due(operator + " at first", new Mutagenry().setOperator(operator, false), true);
        }
        Mutagenry four = new Mutagenry();
        for (int i = 0; i < 4; i++) {
            add(four, 0, 47, 24, 0);
            due("function " + i + " at first", four.setFunction(i, true), true);
            due("mutants", four.mutants(), i + 1);
        }
        due("not told any more", four.setFunction(1, false), true);
        due("three", listed(four), "0s47 4s47 6s47");
        due("not told so far", four.setFunction(1, true), false);
        due("none of no operator", only("", four).mutants(), 0);
        says("Mutants are numbered by their places, then operators, then variants");
        due("of one function", listed(made(2, 43, 14, 1, 0, 47, 0, 47, 105)),
                "0n43 1r15 1r16 1r17 2v0 3v1 4s47 5v1 6s47 7c106 7c104 7c100");
        says("mutatedWord: for n and s that of the program");
        due("n", listed(only("n", made(0, 45, 42, 0, 43, 0, 44, 0, 45, 46, 45, 46, 46))), "1n42 3n43 5n44");
        due("s", listed(only("s", made(0, 45, 51, 0, 0, 41, 0, 0, 48, 0, 46))), "1s51 3s41 6s48");
    }

    // ------------------------------------------------------------------ tests and their limits

    /** 4 steps and (3 + rests) for each of the rounds; one more with an empty list behind. */
    private static int[] rounds(int rounds, int rests, int behind) {
        return joined(words(45, 40, 0, 92 + Math.floorMod(8 - rounds, 16)), words(44, 0, 45, 40, 0, 10, 0, 101), times(rests, 45, 46),
                words(46), times(behind, 45, 46), words(46));
    }

    /**
     * The program takes 5 steps and those ahead; its mutant 'a' of 10 takes (3 + rests) more for each round down
     * from the argument to 0.
     */
    private static Mutagenry longer(int ahead, int rests, int argument) {
        int[] statement = joined(words(45), times(ahead, 45, 46), words(40, 0, 12, 0, 100),
                words(44, 0, 45, 40, 0, 11, 0, 101), times(rests, 45, 46), words(46, 47, 105, 46));
        Mutagenry works = only("a", made(1, statement));
        works.addTest(0, given(argument));
        return works;
    }

    private static void testsAndLimits() {
        says("At most 16 tests are numbered from 0");
        Mutagenry works = only("s", made(1, 47, 0));
        for (int i = 0; i < 16; i++) {
            due("test " + i, works.addTest(0, given(i == 15 ? -8 : 0)), i);
        }
        due("the last one kills", works.kills(0), 32768);
        due("it is the least set", works.leastSet(true), 32768);
        due("it is the first one", works.orderAt(0) + " " + works.orderAt(1) + " " + works.orderAt(15), "15 0 14");
        due("its score", works.score(32768, false) + " " + works.score(32767, false), "1.0 0.0");
        Mutagenry each = only("s", made(1, 47, 0));
        for (int i = 0; i < 16; i++) {
            each.addTest(0, given(i % 7 + 1));
        }
        due("all kill", each.kills(0), 65535);
        due("the mean", each.meanKills(), 16.0);
        says("a function, and three arguments, of which it takes as many as it has parameters");
        for (int parameters = 0; parameters <= 3; parameters++) {
            Mutagenry sum = made(parameters, 47, 10, 0, 10, 1, 2);
            sum.addTest(0, number(1, 2, 4));
            due(parameters + " parameters", sum.expected(0), (1 << parameters) - 1);
        }
        says("A test begins with all hidden ones 0");
        for (int hidden = 0; hidden < 4; hidden++) {
            Mutagenry twice = made(0, 45, 51, hidden, 10, 24, hidden, 101, 47, 24, hidden, 46);
            twice.addTest(0, 0);
            twice.addTest(0, 0);
            due("hidden " + hidden, twice.expected(0) + " " + twice.expected(1) + " " + twice.outcome(0, 0), "1 1 1");
            due("that of a mutant", twice.alone(0, 1) + " " + twice.alone(0, 1), "0 0");
            due("that of another one", twice.alone(1, 0) + " " + twice.alone(1, 1), "-1 -1");
        }
        programLimits();
        mutantLimits();
        killedAndReached();
    }

    private static int expectedOf(int limit, int[] statement) {
        Mutagenry works = made(0, statement);
        works.addTest(0, 0);
        if (limit != 200) {
            works.setLimit(limit);
        }
        return works.expected(0);
    }

    private static void programLimits() {
        says("Its limit of steps is the one told, 200 at first, from 10 to 400");
        due("200 steps", stepsOf(rounds(14, 11, 0)) + " " + expectedOf(200, rounds(14, 11, 0)), "200 0");
        due("201 steps", stepsOf(rounds(14, 11, 1)) + " " + expectedOf(200, rounds(14, 11, 1)), "201 999");
        due("10 steps", stepsOf(rounds(2, 0, 0)) + " " + expectedOf(10, rounds(2, 0, 0)), "10 0");
        due("11 steps", stepsOf(rounds(2, 0, 1)) + " " + expectedOf(10, rounds(2, 0, 1)), "11 999");
        due("400 steps", expectedOf(400, rounds(11, 33, 0)), 0);
        due("401 steps", expectedOf(400, rounds(11, 33, 1)), 999);
        due("399", expectedOf(399, rounds(11, 33, 0)), 999);
        Mutagenry works = made(0, rounds(14, 11, 1));
        works.addTest(0, 0);
        due("201 steps of 200", works.expected(0), 999);
        due("200 at first", works.setLimit(201), 200);
        due("201 of 201", works.expected(0), 0);
        works.setLimit(200);
        due("201 of 200 again", works.expected(0) + " " + works.steps(0, 0), "999 201");
        Mutagenry told = only("s", made(0, joined(words(45), times(10, 40, 1, 100), words(46))));
        told.addTest(0, 0);
        due("kills of 11 steps by 200", told.kills(9) + " " + told.meanKills() + " " + told.expected(0), "0 0.0 0");
        told.setLimit(10);
        due("kills of 10 steps by 10", told.kills(9) + " " + told.meanKills() + " " + told.expected(0), "1 1.0 999");
        told.setLimit(11);
        due("kills of 10 steps by 11", told.kills(9) + " " + told.meanKills() + " " + told.expected(0), "0 0.0 0");
    }

    private static void mutantLimits() {
        says("the limit for a mutant is 4 times the steps of the program as it is on this test, plus 20");
        due("steps of the program", longer(0, 2, 7).steps(0, given(7)), 5);
        due("40 steps of 40", longer(0, 2, 7).alone(0, 0) + " " + longer(0, 2, 7).told(0, 0), "5 i");
        due("45 steps of 40", longer(0, 2, -8).alone(0, 0) + " " + longer(0, 2, -8).told(0, 0), "999 k");
        due("41 steps of 40", longer(0, 3, 6).alone(0, 0) + " " + longer(0, 3, 6).told(0, 0), "999 k");
        due("35 steps of 40", longer(0, 3, 5).alone(0, 0) + " " + longer(0, 3, 5).told(0, 0), "5 i");
        due("44 steps of 44", longer(1, 35, 1).alone(0, 0), 5);
        due("45 steps of 44", longer(1, 10, 3).alone(0, 0), 999);
        says("or, if the program passes its limit, this one");
        Mutagenry eleven = only("s", made(0, joined(words(45), times(10, 40, 1, 100), words(46))));
        eleven.addTest(0, 0);
        due("10 steps of 64", eleven.alone(0, 0), 0);
        eleven.setLimit(10);
        due("10 steps of 10", eleven.alone(0, 0), 0);
        Mutagenry twelve = only("s", made(0, joined(words(45), times(11, 40, 1, 100), words(46))));
        twelve.addTest(0, 0);
        twelve.setLimit(10);
        due("11 steps of 10", twelve.alone(0, 0), 999);
        Mutagenry just = longer(5, 2, -6);
        just.setLimit(10);
        due("the program takes 10 of 10", just.steps(0, given(-6)), 10);
        due("60 steps of 60", just.alone(0, 0), 5);
        just.addTest(0, given(-5));
        due("65 steps of 60", just.alone(0, 1), 999);
        Mutagenry over = longer(6, 0, 1);
        over.setLimit(10);
        due("the program takes 11 of 10", over.expected(0), 999);
        due("and its mutant 14 of 10", over.alone(0, 0), 999);
    }

    private static void killedAndReached() {
        says("A mutant is killed by a test if its outcome is another one than that of the program");
        Mutagenry thrown = only("n", made(1, 43, 0, 47, 105, 48, 105));
        thrown.addTest(0, given(1));
        due("5 is not 5 that is thrown", thrown.told(0, 0) + " " + thrown.expected(0) + " " + thrown.alone(0, 0),
                "k 5 105");
        Mutagenry zero = only("s", made(1, 47, 0));
        zero.addTest(0, given(0));
        zero.addTest(0, given(1));
        due("0 that is returned is as no return", told(zero, 0) + told(zero, 1), "ik");
        Mutagenry endless = only("n", made(1, 44, 0, 45, 46));
        endless.addTest(0, given(0));
        endless.addTest(0, given(7));
        due("0 and 999", endless.kills(0), 3);
        says("It is reached if its place is come to; told: '-' not reached");
        Mutagenry ways = only("c", made(1, 45, 43, 0, 40, 1, 101, 40, 1, 101, 47, 1, 47, 101, 46));
        ways.addTest(0, given(-8));
        ways.addTest(0, given(0));
        due("the first way", told(ways, 0), "kk----");
        due("the second way", told(ways, 1), "--kk--");
        Mutagenry behind = only("ac", made(0, 45, 40, 1, 10, 13, 101, 100, 104, 48, 100, 46));
        behind.addTest(0, 0);
        due("up to what throws", told(behind, 0), "rrrkkkiikk-----");
        Mutagenry list = only("s", made(0, joined(words(45), times(12, 40, 1, 100), words(46))));
        list.addTest(0, 0);
        list.setLimit(10);
        due("up to the statement that passes the limit", told(list, 0), "iiiiiiiiii--");
    }

    // ------------------------------------------------------------------ infection

    private static void infection() {
        says("infected if, at its place, .. what it gives is unlike .. another value; 'i' infected alone, 'r' reached");
        Mutagenry works = only("a", made(2, 47, 12, 10, 0, 1, 100));
        int[][] tests = {{3, 1}, {2, 2}, {1, 0}, {0, 0}};
        String[] want = {"kkkiii", "kkkiri", "kkkrik", "rrkrrk"};
        for (int i = 0; i < 4; i++) {
            works.addTest(0, number(tests[i][0], tests[i][1], 0));
            due("test " + i, told(works, i), want[i]);
        }
        says("infected .. at some time");
        Mutagenry second = only("r", made(0, 45, 40, 1, 102, 44, 1, 45, 40, 2, 16, 1, 101, 40, 1, 11, 1, 101, 46, 46));
        second.addTest(0, 0);
        due("at the second time", told(second, 0), "iri");
        says("or a value where the program would throw, or the other way round");
        Mutagenry value = only("a", made(1, 49, 40, 1, 13, 0, 100, 2, 45, 46));
        value.addTest(0, given(0));
        due("the program throws", told(value, 0), "iii");
        Mutagenry thrown = only("a", made(1, 49, 40, 1, 12, 0, 100, 2, 45, 46));
        thrown.addTest(0, given(0));
        thrown.addTest(0, given(-8));
        due("the mutant throws", told(thrown, 0) + " " + told(thrown, 1), "rri iii");
        says("infected if .. another thrown value; the same one is none");
        Mutagenry both = only("a", made(1, 49, 40, 1, 10, 13, 104, 0, 101, 2, 45, 46));
        both.addTest(0, given(0));
        due("both throw 1", told(both, 0), "rrriii");
        asideSteps();
        says("at 42 to 44 and 's' it is infected when reached");
        Mutagenry reached = only("ns", made(1, 45, 42, 0, 45, 46, 43, 0, 45, 46, 45, 46, 44, 100, 45, 46, 40, 1, 1, 41,
                100, 100, 51, 0, 100, 42, 0, 47, 100, 47, 100, 48, 100, 46));
        reached.addTest(0, given(0));
        reached.addTest(0, given(1));
        due("what does nothing; 44 without end; what is not come to", told(reached, 0), "iikiiii-k-");
        due("a return of 0 with another one behind it", told(reached, 1), "iikiiiii--");
        says("What the program would give is found aside, with hidden ones put back");
        for (int hidden = 0; hidden < 4; hidden++) {
            Mutagenry counted = made(0, 45, 51, hidden, 10, 24, hidden, 101, 47, 24, hidden, 46);
            add(counted, 0, 47, 10, 30, 100);
            only("a", counted).setFunction(0, false);
            counted.addTest(1, 0);
            due("hidden " + hidden, told(counted, 0), "rkk");
            change(counted, 1, 45, 51, hidden, 103, 47, 10, 30, 100, 46);
            due("hidden " + hidden + ", 3 before", counted.expected(0) + told(counted, 0), "4rkk");
        }
    }

    private static void asideSteps() {
        says("or the program would not come to its end in 100 steps");
        Mutagenry works = made(1, 45, 44, 0, 40, 0, 11, 0, 101, 47, 100, 46);
        add(works, 1, 45, 44, 0, 40, 0, 11, 0, 101, 45, 46, 47, 100, 46);
        add(works, 0, 47, 10, 10, 30, 99, 30, 99, 30, 98);
        only("a", works);
        works.setFunction(0, false);
        works.setFunction(1, false);
        works.addTest(2, 0);
        due("steps, the return counted", works.steps(2, 0), 101);
        due("in 100 steps", told(works, 0), "rrkrrk");
        change(works, 2, 47, 10, 10, 30, 99, 30, 99, 31, 98);
        due("steps of one more", works.steps(2, 0), 102);
        due("in 101 steps", told(works, 0), "iikrrk");
        works.setLimit(400);
        due("whatever the limit", told(works, 0), "iikrrk");
        works.setLimit(102);
        due("just the limit", told(works, 0), "iikrrk");
        // two rounds; the sum is found at the step 10, being 0, and at the step 19, being 1; each call takes 4 steps
        Mutagenry rounds = made(0, 45, 45, 46, 45, 46, 47, 100, 46);
        add(rounds, 0, 45, 40, 0, 102, 44, 0, 45, 40, 2, 10, 30, 1, 40, 1, 101, 40, 0, 11, 0, 101, 46, 46);
        only("a", rounds).setFunction(0, false);
        rounds.addTest(1, 0);
        due("22 steps", rounds.steps(1, 0) + told(rounds, 0), "22iikkkk");
        rounds.setLimit(19);
        due("steps that are taken aside are none of the 19", rounds.expected(0) + told(rounds, 0), "999iikiii");
        rounds.setLimit(18);
        due("18 are not enough for the second round", rounds.expected(0) + told(rounds, 0), "999rrkiii");
        says("a mutant that passes its limit there gives nothing");
        Mutagenry endless = made(0, 44, 101, 45, 46);
        add(endless, 0, 47, 10, 30, 100);
        only("a", endless);
        endless.setFunction(0, false);
        endless.addTest(1, 0);
        due("999 and 999", told(endless, 0), "rrr");
        endless.setLimit(10);
        due("the limit being 10", told(endless, 0), "rrr");
    }

    // ------------------------------------------------------------------ shared runs and likes

    private static void sharedRuns() {
        says("of a test, the program is run once; a mutant whose place this run does not come to is not run");
        Mutagenry works = made(2, 43, 14, 1, 0, 47, 0, 47, 105);
        due("no test", works.runs(), 0L);
        works.addTest(0, number(3, 1, 0));
        due("8 of 12 mutants", works.runs(), 9L);
        works.addTest(0, number(3, 1, 0));
        due("the same test again", works.runs(), 18L);
        works.addTest(0, number(1, 3, 0));
        due("10 of 12 mutants", works.runs(), 29L);
        due("no mutants", only("", works).runs(), 3L);
        Mutagenry most = made(0, numbers(45, 5));
        for (int i = 0; i < 16; i++) {
            most.addTest(0, 0);
        }
        due("150 mutants and 16 tests", most.runs(), 16L + 16 * 150);
        Mutagenry never = made(0, 45, 46);
        add(never, 0, 47, 105);
        never.addTest(0, 0);
        due("a function that is not called", never.runs(), 1L);
        says("What shared runs tell is what each mutant tells when it is run alone, from its beginning");
        int[][] programs = {{45, 51, 0, 10, 24, 0, 0, 49, 47, 13, 24, 0, 1, 2, 47, 10, 2, 24, 0, 46},
            {45, 44, 14, 0, 1, 45, 40, 0, 10, 0, 101, 51, 1, 10, 24, 1, 101, 46, 47, 24, 1, 46},
            {43, 16, 0, 1, 47, 30, 10, 0, 101, 1, 48, 11, 0, 1}};
        for (int[] program : programs) {
            Mutagenry some = made(2, program);
            for (int i = 0; i < 4; i++) {
                some.addTest(0, number(5 * i - 8, 3 * i - 5, 0));
            }
            boolean isSame = true;
            for (int mutant = 0; mutant < some.mutants() && mutant < 40; mutant++) {
                for (int test = 0; test < 4; test++) {
                    boolean isKilled = some.alone(mutant, test) != some.expected(test);
                    isSame &= isKilled == ((some.kills(mutant) >> test & 1) != 0);
                }
            }
            due("program of " + program[1], isSame + " " + some.isSound(), "true true");
        }
    }

    private static int folded(int word, int first, int second) {
        if (word == 13 && second == 0) {
            return 99;
        }
        int value;
        switch (word) {
            case 10: value = first + second; break;
            case 11: value = first - second; break;
            case 12: value = first * second; break;
            case 13: value = first / second; break;
            case 14: value = first < second ? 1 : 0; break;
            case 15: value = first <= second ? 1 : 0; break;
            case 16: value = first == second ? 1 : 0; break;
            case 17: value = first != second ? 1 : 0; break;
            case 18: value = first != 0 && second != 0 ? 1 : 0; break;
            default: value = first != 0 || second != 0 ? 1 : 0; break;
        }
        return Math.floorMod(value + 8, 16) - 8;
    }

    private static String likesOf(String operators, int parameters, int... statement) {
        return likesOf(only(operators, made(parameters, statement)));
    }

    private static void likes() {
        says("10 to 12 and 14 to 21 of numbers alone, and 13 of numbers if the second one is not 0, become a number");
        for (int word = 10; word <= 19; word++) {
            int from = word <= 13 ? 10 : word <= 17 ? 14 : 18;
            int to = word <= 13 ? 13 : word <= 17 ? 17 : 19;
            for (int first = -8; first <= 7; first++) {
                for (int second = -8; second <= 7; second++) {
                    String want = "";
                    int value = folded(word, first, second);
                    for (int other = from; other <= to; other++) {
                        boolean isLike = value != 99 && value == folded(other, first, second);
                        want += other == word ? "" : isLike ? "n" : "-";
                    }
                    due(word + " of " + first + " and " + second,
                            likesOf("arl", 3, 47, word, 100 + first, 100 + second), want);
                }
            }
        }
        for (int value = -8; value <= 7; value++) {
            boolean isSame = value == 0 || value == -8;
            due("20 of " + value, likesOf("u", 3, 47, 20, 100 + value), isSame ? "n" : "-");
            due("21 of " + value, likesOf("u", 3, 47, 21, 100 + value), "-");
        }
        says("what is added to 0, or 0 to it, less 0, times 1, or 1 times it, becomes itself; 20 of 20");
        due("x + 0, - 0, * 0, / 0", likesOf("a", 3, 47, 10, 0, 100), "n--");
        due("x - 0", likesOf("a", 3, 47, 11, 0, 100), "n--");
        due("0 + x, - x, * x, / x", likesOf("a", 3, 47, 10, 100, 0), "---");
        due("0 - x", likesOf("a", 3, 47, 11, 100, 0), "---");
        due("x * 1, + 1, - 1, / 1", likesOf("a", 3, 47, 12, 0, 101), "---");
        due("x + 1", likesOf("a", 3, 47, 10, 0, 101), "---");
        due("what is found to be 0", likesOf("a", 3, 47, 10, 0, 11, 103, 103), "n-----");
        due("more words than one", likesOf("a", 3, 47, 10, 30, 0, 1, 2, 100), "n--");
        due("-(-(-x))", likesOf("u", 3, 47, 20, 20, 20, 0), "---");
        due("x * y + 0", likesOf("a", 3, 47, 10, 12, 0, 1, 100), "n-----");
        due("x * y - 0", likesOf("a", 3, 47, 11, 12, 0, 1, 100), "n-----");
        due("0 + x * y", likesOf("a", 3, 47, 10, 100, 12, 0, 1), "------");
        due("(x + y) * 1", likesOf("a", 3, 47, 12, 10, 0, 1, 101), "------");
        due("1 * (x + y)", likesOf("a", 3, 47, 12, 101, 10, 0, 1), "------");
        due("-(-(x + y))", likesOf("au", 3, 47, 20, 20, 10, 0, 1), "-----");
        due("(x - 0) * 1 + 0", likesOf("a", 3, 47, 10, 12, 11, 0, 100, 101, 100), "n-----n--");
        due("words that follow", likesOf("a", 3, 45, 40, 3, 10, 0, 100, 41, 0, 11, 1, 100, 47, 10, 2, 100, 46),
                "n--n--n--");
        says("A mutant, but of 'n' or 's', is like the program by one form");
        due("of 3 parameters", likesOf("ns", 3, 45, 40, 0, 0, 42, 100, 45, 46, 46), "--");
        due("by all inputs", likesOf("ns", 1, 45, 40, 0, 0, 42, 100, 45, 46, 46), "bb");
        byAllInputs();
        says("(likes) those of the operators that are told, and of the functions that are told");
        Mutagenry works = only("s", made(1, 45, 40, 5, 0, 47, 12, 0, 101, 46));
        due("of s", likesOf(works), "b-");
        due("of a", likesOf(only("a", works)), "--b");
        due("of s again", likesOf(only("s", works)), "b-");
        add(works, 1, 47, 0);
        due("of two functions", likesOf(works), "b--");
        works.setFunction(0, false);
        due("of the second one", likesOf(works), "-");
    }

    private static void byAllInputs() {
        says("like by all inputs, 'b', if no hidden one is read in any function");
        int[] times = {47, 12, 0, 101};
        due("none", likesOf("a", 1, times), "--b");
        Mutagenry works = only("a", made(1, times));
        add(works, 0, 51, 3, 101);
        due("one that is set", likesOf(works), "--b");
        change(works, 1, 51, 3, 24, 3);
        due("one that is read in another function", likesOf(works), "---");
        change(works, 1, 45, 47, 100, 47, 24, 0, 46);
        due("one that would be read behind a return", likesOf(works), "---");
        change(works, 1, 45, 47, 100, 47, 100, 46);
        due("none any more", likesOf(works), "--b");
        says("none has 3 parameters");
        add(works, 2, 47, 0);
        due("2", likesOf(works), "--b");
        add(works, 3, 47, 0);
        due("3", likesOf(works), "---");
        due("3 of its own", likesOf("a", 3, times), "---");
        due("2 of its own", likesOf("a", 2, times), "--b");
        says("and all functions have the same outcome");
        int[] down = {45, 44, 14, 100, 0, 40, 0, 11, 0, 101, 47, 100, 46};
        Mutagenry caller = only("r", made(1, down));
        due("34 steps of 36", caller.mutatedWord(2) + " " + caller.isLike(2), "17 b");
        add(caller, 0, 47, 30, 99);
        due("35 steps of 40", caller.isLike(2), 'b');
        change(caller, 1, 47, 10, 30, 99, 30, 99);
        due("69 steps of 56", caller.isLike(2), '-');
        says("for all arguments, as tests would");
        due("7 alone is unlike", likesOf("r", 1, 47, 14, 0, 107), "--b");
        due("-8 alone is unlike", likesOf("r", 1, 47, 14, 92, 0), "--b");
        due("7 and 7 alone are unlike", likesOf("c", 2, 43, 19, 14, 0, 107, 14, 1, 107, 47, 100, 47, 101)
                .substring(8), "--");
        due("-8 and -8 alone are unlike", likesOf("c", 2, 43, 19, 14, 92, 0, 14, 92, 1, 47, 100, 47, 101)
                .substring(8), "--");
        due("the return of 0 left out", likesOf("s", 2, 43, 19, 14, 0, 107, 14, 1, 107, 47, 100, 47, 101), "b-");
        due("none of two is not so", likesOf("s", 2, 43, 15, 0, 107, 47, 100, 47, 101), "bb");
        due("of no parameters", likesOf("s", 0, 45, 40, 0, 101, 47, 100, 46), "bb");
    }

    // ------------------------------------------------------------------ kills and sets

    /** Of 4 mutants the first three are killed where the first, second or third argument is not 0, the last by any. */
    private static Mutagenry flags(int... tests) {
        Mutagenry works = only("s", made(3, 45, 42, 0, 40, 3, 101, 42, 1, 40, 4, 101, 42, 2, 40, 5, 101, 47, 10, 3, 10,
                12, 102, 4, 12, 104, 5, 46));
        for (int test : tests) {
            works.addTest(0, number(test >> 2 & 1, test >> 1 & 1, test & 1));
        }
        return works;
    }

    private static void killsAndSets() {
        says("The kills of a mutant are the tests that kill it; Returns the sum of 2 to the power of each test");
        due("no tests", killsOf(flags()), "0 0 0 0");
        due("a test that kills none", killsOf(flags(0)), "0 0 0 0");
        Mutagenry works = flags(4, 2, 6);
        due("three tests", killsOf(works), "5 6 0 7");
        says("subsumed by another one if the other one's kills are some, and not all, of its own");
        String[] subsumed = {"----", "----", "----", "ss--"};
        for (int mutant = 0; mutant < 4; mutant++) {
            String got = "";
            for (int by = 0; by < 4; by++) {
                got += works.isSubsumed(mutant, by) ? "s" : "-";
            }
            due("mutant " + mutant, got, subsumed[mutant]);
        }
        Mutagenry same = flags(6);
        due("the same kills", killsOf(same) + " " + same.isSubsumed(0, 1) + same.isSubsumed(3, 0), "1 1 0 1 falsefalse");
        says("The least kills are those kills, not none, that are of no mutant that is subsumed; of each the lowest");
        due("two", works.minimals() + " " + works.minimalAt(0) + " " + works.minimalAt(1), "2 0 1");
        due("the lowest of three", same.minimals() + " " + same.minimalAt(0), "1 0");
        due("none", flags(0).minimals(), 0);
        due("no tests", flags().minimals(), 0);
        due("the last ones", flags(2, 1).minimals() + " " + flags(2, 1).minimalAt(0) + " " + flags(2, 1).minimalAt(1),
                "2 1 2");
        due("subsumed by the first one alone", flags(6, 2).minimals() + " " + flags(6, 2).minimalAt(0), "1 0");
        due("subsumed by the second one alone", flags(6, 4).minimals() + " " + flags(6, 4).minimalAt(0), "1 1");
        due("of all three", flags(4, 2, 1).minimals() + " " + flags(4, 2, 1).minimalAt(2), "3 2");
        scores();
        orders();
    }

    private static void scores() {
        says("Scores are shares: of killed mutants among those that are not like by one form");
        Mutagenry works = flags(4, 2, 6);
        float[] killed = {0f, 0.5f, 0.5f, 0.75f, 0.75f, 0.75f, 0.75f, 0.75f};
        float[] least = {0f, 0.5f, 0.5f, 1f, 1f, 1f, 1f, 1f};
        for (int tests = 0; tests < 8; tests++) {
            due("killed ones of " + tests, works.score(tests, false), killed[tests]);
        }
        Mutagenry like = only("a", made(1, 47, 10, 0, 100));
        like.addTest(0, given(7));
        due("two of two, one being like", like.score(1, false), 1f);
        Mutagenry byAll = only("a", made(1, 47, 12, 0, 101));
        byAll.addTest(0, given(7));
        due("two of three, one being like by all inputs", byAll.score(1, false), (float) (2.0 / 3.0));
        says("of the least kills that some tests have, among all: a set of tests has them if it has one of them");
        for (int tests = 0; tests < 8; tests++) {
            due("least kills of " + tests, works.score(tests, true), least[tests]);
        }
        says("Returns the share, converted to float");
        due("a third", flags(4, 2, 1).score(1, true), (float) (1.0 / 3.0));
        due("two thirds", flags(4, 2, 1).score(6, true), (float) (2.0 / 3.0));
    }

    private static String orderOf(Mutagenry works) {
        StringBuilder text = new StringBuilder();
        for (int i = 0; i < works.tests(); i++) {
            text.append(works.orderAt(i));
        }
        return text.toString();
    }

    private static void orders() {
        says("always the one with the most mutants that those ahead do not kill, of several the lowest number");
        due("five tests", orderOf(flags(0, 4, 3, 6, 3)), "21034");
        due("the most first", orderOf(flags(4, 2, 7)), "201");
        due("those that are left count alone", orderOf(flags(6, 5, 1)), "012");
        due("those that are left count alone, the last one", orderOf(flags(6, 4, 1)), "021");
        says("(the order of tests) also with none");
        due("none kills", orderOf(flags(0, 0, 0)), "012");
        due("one kills", orderOf(flags(0, 0, 1)), "201");
        due("no mutants", orderOf(only("", flags(0, 4, 1))), "012");
        says("The least set .. is that with the fewest tests that have all that all tests have");
        due("no tests", flags().leastSet(true) + " " + flags().leastSet(false), "0 0");
        due("a test that kills none", flags(0).leastSet(true) + " " + flags(0).leastSet(false), "0 1");
        due("one of three", flags(4, 2, 7).leastSet(true) + " " + flags(4, 2, 7).leastSet(false), "4 4");
        due("two, not the one of most", flags(6, 4, 3).leastSet(true), 5);
        due("what none has is not asked for", flags(4, 4, 2).leastSet(true), 5);
        due("all of three", flags(4, 2, 1).leastSet(true) + " " + flags(4, 2, 1).leastSet(false), "7 7");
        says("of several the one with the least number, as a sum of 2 to the power of each");
        due("1 and 2, not 0 and 5", flags(4, 6, 1, 0, 0, 3).leastSet(true), 6);
        due("of places", flags(4, 6, 1, 0, 0, 3).leastSet(false), 6);
        due("the first of the same", flags(0, 5, 5, 5).leastSet(true) + " " + flags(0, 5, 5, 5).leastSet(false), "2 2");
        Mutagenry last = flags(0, 0, 0, 0, 0, 0, 0, 0, 0, 0, 0, 0, 0, 1, 2, 4);
        due("the last three of 16", last.leastSet(true) + " " + last.leastSet(false), "57344 57344");
        says("covers: Returns how many places the program comes to in a test");
        due("none so", flags(0).covers(0), 17);
        due("one so", flags(4).covers(0), 19);
        due("all so", flags(7).covers(0), 23);
        due("all of them", flags(7).places(), 23);
        says("ways: so or not so being two");
        due("no tests", flags().ways(), 0);
        due("none so", flags(0).ways(), 3);
        due("each so, and not so", flags(0, 7).ways(), 6);
        due("all so", flags(7, 7).ways(), 3);
        Mutagenry loop = made(1, 44, 13, 0, 0, 40, 0, 100);
        loop.addTest(0, given(0));
        due("it throws as it asks", loop.ways(), 0);
        loop.addTest(0, given(-8));
        due("so, and then it throws", loop.ways(), 1);
    }

    private static void pairs() {
        says("A pair are two mutants .. that are both so at once, with the limit of mutants");
        Mutagenry limit = only("an", made(1, joined(words(45, 42, 100, 45, 46, 45, 46, 45, 46), words(40, 0, 12, 0, 100),
                words(44, 0, 45, 40, 0, 11, 0, 101, 45, 46, 46, 47, 105, 46))));
        limit.addTest(0, given(-5));
        due("mutants", limit.operatorOf(0) + " " + limit.mutatedWord(1), "n 10");
        due("9 steps and 52 steps, of 52", limit.alone(0, 0) + " " + limit.alone(1, 0), "5 5");
        due("53 steps of 52", limit.pairKills(0, 1), 1);
        due("is no harder one", limit.isHarder(0, 1) + " " + limit.masked(0, 1), "false 0");
        Mutagenry hidden = only("c", made(0, 45, 51, 0, 10, 24, 0, 101, 40, 1, 100, 47, 10, 24, 0, 1, 46));
        hidden.addTest(0, 0);
        hidden.addTest(0, 0);
        due("hidden ones begin with 0", listed(hidden) + " " + hidden.pairKills(0, 3) + hidden.masked(0, 3),
                "4c102 4c100 6c101 6c99 03");
        says("A pair is masked on a test that kills one of both, but not the pair");
        Mutagenry works = only("nc", made(1, 45, 40, 1, 103, 42, 0, 40, 1, 103, 47, 1, 46));
        works.addTest(0, given(0));
        works.addTest(0, given(1));
        due("mutants", works.mutatedWord(0) + " " + works.operatorOf(3), "104 n");
        due("kills", works.kills(0) + " " + works.kills(3) + " " + works.pairKills(0, 3), "1 0 2");
        due("masked", works.masked(0, 3) + " " + works.masked(3, 0), "1 1");
        due("not harder", works.isHarder(0, 3), false);
        Mutagenry each = only("cn", made(1, 45, 40, 1, 100, 44, 1, 45, 46, 47, 103, 46));
        each.addTest(0, given(0));
        due("each kills alone, the pair does not", each.kills(0) + " " + each.kills(2) + " " + each.pairKills(0, 2) + " "
                + each.masked(0, 2), "1 1 0 1");
        Mutagenry three = flags(4, 2, 6);
        due("none is masked", three.masked(0, 1) + " " + three.pairKills(0, 1), "0 7");
        due("no test", flags().masked(0, 1) + " " + flags().pairKills(0, 1), "0 0");
        says("it is harder than both if some test kills it, and all that do kill both");
        due("just those of both", flags(6, 7).isHarder(0, 1), true);
        due("one that kills one of both", flags(6, 4).isHarder(0, 1), false);
        due("one that kills the other one", flags(6, 2).isHarder(0, 1), false);
        due("no test kills it", flags(1, 0).isHarder(0, 1), false);
        due("no tests", flags().isHarder(0, 1), false);
    }

    // ------------------------------------------------------------------ inputs

    private static void inputs() {
        says("Arguments are told as a number: 256 times the first one plus 8, 16 times the second one plus 8, ..");
        for (int variable = 0; variable < 3; variable++) {
            Mutagenry works = made(3, 47, variable);
            due("0", works.outcome(0, 0), -8);
            due("4095", works.outcome(0, 4095), 7);
            for (int value = -8; value <= 7; value++) {
                int arguments = number(variable == 0 ? value : 1, variable == 1 ? value : 2, variable == 2 ? value : 3);
                due("variable " + variable + " of " + value, works.outcome(0, arguments), value);
            }
        }
        says("those beyond the parameters being 0");
        int[] killing = {ZEROS, 0x088, 0x008, 0x000};
        int[] climbing = {ZEROS, 0x988, 0x988, 0x988};
        for (int parameters = 0; parameters <= 3; parameters++) {
            Mutagenry works = only("s", made(parameters, 47, 101));
            due("killing, " + parameters, works.killing(0, 0), killing[parameters]);
            Mutagenry climbs = made(parameters, 47, parameters == 0 ? 101 : 0);
            due("climb, " + parameters, climbs.climb(0, 1, true), climbing[parameters]);
        }
        says("killing: Looks for the least arguments .. with which a test would kill a mutant");
        Mutagenry last = only("s", made(3, 42, 18, 16, 0, 107, 18, 16, 1, 107, 16, 2, 107, 47, 101));
        due("the last ones", last.killing(0, 0), 4095);
        Mutagenry hidden = only("c", made(1, 45, 51, 0, 10, 24, 0, 101, 47, 14, 24, 0, 0, 46));
        due("hidden ones begin with 0 each time", hidden.killing(0, 0), given(2));
        distances();
        climbs();
    }

    private static String farOf(int word, int first, int second) {
        Mutagenry works = made(2, 47, word, 0, 1);
        return works.far(0, number(first, second, 0), 1, true) + " " + works.far(0, number(first, second, 0), 1, false);
    }

    private static void distances() {
        says("To a 14, 15, 16, 17 being so, or not so; at least 0; Differences do not go round here");
        for (int first = -8; first <= 7; first++) {
            for (int second = -8; second <= 7; second++) {
                int less = first - second;
                String pair = " of " + first + " and " + second;
                due("14" + pair, farOf(14, first, second), Math.max(less + 1, 0) + " " + Math.max(-less, 0));
                due("15" + pair, farOf(15, first, second), Math.max(less, 0) + " " + Math.max(1 - less, 0));
                due("16" + pair, farOf(16, first, second), Math.abs(less) + " " + (less == 0 ? 1 : 0));
                due("17" + pair, farOf(17, first, second), (less == 0 ? 1 : 0) + " " + Math.abs(less));
            }
        }
        says("to others so: 1 if it is 0, otherwise 0; not so: its amount");
        int[][] others = {{0}, {10, 0, 100}, {11, 0, 100}, {12, 101, 0}, {13, 0, 101}, {20, 20, 0}, {22, 0}, {24, 0},
            {30, 0}, {18, 0, 0}, {19, 0, 100}, {21, 21, 0}};
        for (int[] other : others) {
            for (int value = -8; value <= 7; value++) {
                boolean isCell = other[0] == 22 || other[0] == 24;
                boolean isLogic = other[0] == 18 || other[0] == 19 || other[0] == 21;
                int amount = isCell ? 0 : isLogic ? Math.min(Math.abs(value), 1) : Math.abs(value);
                boolean isFound = other[0] != 22 || value >= 0 && value <= 3;
                Mutagenry works = made(1, 47, 0);
                add(works, 1, joined(words(47), other));
                String got = works.far(1, given(value), 3, true) + " " + works.far(1, given(value), 3, false);
                due(other[0] + " of " + value, got, isFound ? (amount == 0 ? 1 : 0) + " " + amount : "99 99");
            }
        }
        says("the least of those each time that it is found, 99 if never; a time at which it throws does not count");
        Mutagenry loop = made(1, 45, 44, 0, 45, 49, 40, 1, 13, 104, 11, 0, 102, 2, 45, 46, 40, 0, 11, 0, 101, 46, 46);
        due("place", loop.wordOf(6), 13);
        due("4 / -1, 4 / 0, 4 / 1", loop.far(0, given(3), 6, false), 4);
        due("4 / -1", loop.far(0, given(1), 6, false) + " " + loop.far(0, given(1), 6, true), "4 0");
        due("the least one of 2 and 4", loop.far(0, given(4), 6, false), 2);
        due("never", loop.far(0, given(0), 6, false) + " " + loop.far(0, given(0), 6, true), "99 99");
        Mutagenry counter = made(0, 45, 51, 0, 10, 24, 0, 101, 47, 24, 0, 46);
        due("hidden ones begin with 0", counter.far(0, 0, 6, false) + " " + counter.far(0, 0, 6, false), "1 1");
        due("for climbing, too", counter.climb(0, 6, true) + " " + counter.climb(0, 3, false), ZEROS + " " + ZEROS);
        Mutagenry thrown = made(1, 47, 13, 104, 0);
        due("it throws", thrown.far(0, given(0), 1, true) + " " + thrown.far(0, given(0), 1, false), "99 99");
        Mutagenry endless = made(1, 44, 10, 0, 101, 40, 0, 10, 0, 101);
        due("the limit is passed", made(1, 44, 10, 0, 103, 45, 46).far(0, given(2), 1, false), 5);
        due("behind some rounds", endless.far(0, given(3), 1, false), 0);
    }

    private static int climbOf(int place, boolean isSo, Mutagenry works) {
        try {
            return works.climb(0, place, isSo);
        } catch (java.util.NoSuchElementException e) {
            return -1;
        }
    }

    private static void climbs() {
        says("Climbing begins with all arguments 0");
        due("0 there", climbOf(1, true, made(3, 47, 101)), ZEROS);
        due("0 there, of 0", climbOf(1, false, made(3, 47, 0)), ZEROS);
        says("of those that come by 1 more, or 1 less, .. by rising arguments, 1 more ahead of 1 less, the first one");
        due("1 more ahead of 1 less", climbOf(1, true, made(1, 47, 17, 0, 100)), number(1, 0, 0));
        due("the first ahead of the second", climbOf(1, true, made(2, 47, 17, 0, 1)), number(1, 0, 0));
        due("the second ahead of the third", climbOf(1, true, made(3, 47, 17, 1, 2)), number(0, 1, 0));
        due("the third", climbOf(1, true, made(3, 47, 14, 2, 100)), number(0, 0, -1));
        due("1 less of the first ahead of 1 more of the second", climbOf(1, true, made(2, 47, 14, 0, 1)),
                number(-1, 0, 0));
        says("1 more, or 1 less, going round");
        Mutagenry more = made(1, 45, 42, 18, 14, 0, 100, 17, 0, 92, 47, 100, 47, 11, 92, 0, 46);
        due("from 7 to -8", more.wordOf(12) + " " + climbOf(12, false, more), "11 " + number(-8, 0, 0));
        Mutagenry less = made(1, 45, 42, 18, 14, 100, 0, 17, 0, 107, 47, 100, 47, 16, 10, 0, 107, 98, 46);
        due("from -8 to 7", less.wordOf(12) + " " + climbOf(12, true, less), "16 " + number(7, 0, 0));
        says("that with the least distance is taken");
        due("the second one comes nearer", climbOf(1, true, made(2, 47, 16, 10, 0, 12, 1, 102, 104)), number(0, 2, 0));
        due("the first one comes nearer", climbOf(1, true, made(2, 47, 16, 10, 1, 12, 0, 102, 104)), number(2, 0, 0));
        due("1 less comes nearer", climbOf(1, true, made(1, 47, 16, 12, 0, 12, 0, 0, 97)), -1);
        says("if it is less than it was; it ends without such a one");
        due("the same everywhere", climbOf(1, true, made(3, 47, 16, 12, 0, 100, 101)), -1);
        due("never found", climbOf(3, true, made(3, 42, 100, 47, 0)), -1);
        due("99 everywhere", climbOf(4, true, made(1, 45, 42, 100, 47, 0, 46)), -1);
        due("no parameters", climbOf(1, false, made(0, 47, 101)), -1);
        due("0 is not left", climbOf(1, true, made(2, 47, 15, 0, 1)), ZEROS);
    }

    // ------------------------------------------------------------------ hidden state and changes

    private static void hiddenStateAndChanges() {
        says("A test leans if it has another outcome when another test of the program runs ahead of it");
        Mutagenry works = made(1, 45, 42, 0, 51, 0, 0, 47, 24, 0, 46);
        works.addTest(0, given(0));
        due("no other one", works.leans(0), false);
        works.addTest(0, given(0));
        due("another one that leaves 0", works.leans(0), false);
        works.addTest(0, given(5));
        due("one that leaves 5", works.leans(0) + " " + works.leans(1), "true true");
        due("that one itself", works.leans(2), false);
        Mutagenry counter = made(0, 45, 51, 0, 10, 24, 0, 101, 47, 24, 0, 46);
        counter.addTest(0, 0);
        due("not by itself", counter.leans(0) + " " + counter.after(0, 0), "false 2");
        counter.addTest(0, 0);
        due("by one of the same arguments", counter.leans(0) + " " + counter.leans(1), "true true");
        Mutagenry first = made(1, 45, 42, 0, 51, 0, 0, 47, 24, 0, 46);
        first.addTest(0, given(5));
        first.addTest(0, given(0));
        due("by one of a lower number", first.leans(1), true);
        says("and hidden ones stay as that left them; after: behind another one, or the same one");
        for (int hidden = 0; hidden < 4; hidden++) {
            Mutagenry each = made(1, 45, 42, 0, 45, 51, hidden, 0, 42, 14, 0, 100, 43, 16, 0, 99, 48, 103, 44, 101, 45, 46,
                    46, 47, 24, hidden, 46);
            each.addTest(0, given(0));
            each.addTest(0, given(5));
            each.addTest(0, given(-1));
            each.addTest(0, given(-2));
            due("outcomes", each.expected(0) + " " + each.expected(1) + " " + each.expected(2) + " " + each.expected(3),
                    "0 5 103 999");
            due("behind a return", each.after(0, 1), 5);
            due("behind a throw", each.after(0, 2), -1);
            due("behind the limit", each.after(0, 3), -2);
            due("behind itself", each.after(1, 1) + " " + each.after(0, 0), "5 0");
            due("the test ahead begins with 0", each.after(0, 1) + " " + each.after(0, 0), "5 0");
        }
        changesAndPredictions();
    }

    private static String countedOf(Mutagenry works) {
        StringBuilder text = new StringBuilder();
        for (char operator : OPERATORS.toCharArray()) {
            text.append(works.counted(operator, false)).append('/').append(works.counted(operator, true)).append(' ');
        }
        return text.toString().trim();
    }

    private static void changesAndPredictions() {
        says("To define a function anew is a change: first, .. the mutants of the table of kills and the killed ones");
        Mutagenry works = made(2, 43, 14, 1, 0, 47, 0, 47, 105);
        due("nothing so far", countedOf(works), "0/0 0/0 0/0 0/0 0/0 0/0 0/0 0/0");
        due("one", change(works, 0, 43, 14, 1, 0, 47, 0, 47, 105), 1);
        due("without tests none is killed", countedOf(works), "3/0 0/0 3/0 0/0 0/0 3/0 1/0 2/0");
        works.addTest(0, number(3, 1, 0));
        works.addTest(0, number(2, 2, 0));
        due("two", change(works, 0, 47, 0), 2);
        due("those of before the change, to what was counted", countedOf(works), "6/3 0/0 6/2 0/0 0/0 6/3 2/1 4/2");
        due("a new function is no change", add(works, 0, 47, 100) + " " + works.changes(), "1 2");
        due("and counts nothing", countedOf(works), "6/3 0/0 6/2 0/0 0/0 6/3 2/1 4/2");
        works.setFunction(0, false);
        works.setOperator('s', false);
        due("three", change(works, 0, 47, 0), 3);
        due("of operators and functions that are told", countedOf(works), "8/3 0/0 6/2 0/0 0/0 6/3 2/1 4/2");
        Mutagenry many = made(0, numbers(45, 5));
        change(many, 0, numbers(45, 5));
        due("150 at most", countedOf(many), "17/0 132/0 0/0 0/0 0/0 0/0 0/0 1/0");
        says("The prediction of an operator is the killed ones plus 1, divided by all plus 2, of what was counted");
        for (char operator : OPERATORS.toCharArray()) {
            due("at first, " + operator, new Mutagenry().prediction(operator), 0.5f);
        }
        due("4 of 10", works.prediction('c'), (float) (4.0 / 10.0));
        due("3 of 8", works.prediction('r'), (float) (3.0 / 8.0));
        due("2 of 4", works.prediction('n'), 0.5f);
        due("1 of 134", many.prediction('a'), (float) (1.0 / 134.0));
    }

    // ------------------------------------------------------------------ oracles and samples

    private static void oracles() {
        says("At most 8 oracles are numbered from 0, each for a function, judging its tests");
        Mutagenry eight = made(2, 47, 0);
        add(eight, 2, 47, 1);
        for (int i = 0; i < 8; i++) {
            due("oracle " + i, eight.addOracle("pzcd".charAt(i % 4), i / 4, 0), i);
        }
        eight.addTest(1, number(-1, -1, 0));
        eight.addTest(1, number(-1, 2, 0));
        String held = "";
        for (int i = 0; i < 8; i++) {
            held += eight.holds(i);
        }
        due("tests of the second function alone", held, "00001211");
        says("'p' it holds if the value is not less than 0, and nothing is thrown; 'z' if nothing is thrown");
        for (int value = -8; value <= 7; value++) {
            due("returned " + value, heldBy(value, 47), (value >= 0 ? "1" : "0") + "1");
            due("thrown " + value, heldBy(value, 48), "00");
        }
        says("'c' .. if the outcome is the same with the first two arguments exchanged");
        for (int parameters = 2; parameters <= 3; parameters++) {
            due("x - y, unlike", holdsOf('c', parameters, number(1, 2, 5), 47, 11, 0, 1), 0);
            due("x - y, the same", holdsOf('c', parameters, number(2, 2, 5), 47, 11, 0, 1), 1);
            due("x - y, 8 goes round", holdsOf('c', parameters, number(4, -4, 5), 47, 11, 0, 1), 1);
            due("x * y", holdsOf('c', parameters, number(1, 2, 5), 47, 12, 0, 1), 1);
            due("the same is thrown", holdsOf('c', parameters, number(0, 3, 5), 47, 13, 101, 12, 0, 1), 1);
            due("one throws", holdsOf('c', parameters, number(0, 3, 5), 47, 13, 0, 1), 0);
        }
        due("the third stays", holdsOf('c', 3, number(1, 2, 5), 47, 2), 1);
        due("the third is not exchanged", holdsOf('c', 3, number(2, 2, 5), 47, 11, 0, 10, 1, 2), 1);
        peers();
        oracleLimits();
    }

    private static String heldBy(int value, int word) {
        Mutagenry works = made(0, word, 100 + value);
        works.addOracle('p', 0, 0);
        works.addOracle('z', 0, 0);
        works.addTest(0, 0);
        return works.holds(0) + "" + works.holds(1);
    }

    private static int holdsOf(char kind, int parameters, int arguments, int... statement) {
        Mutagenry works = made(parameters, statement);
        works.addOracle(kind, 0, 0);
        works.addTest(0, arguments);
        return works.holds(0);
    }

    private static void peers() {
        says("'d' if that of a peer with as many parameters is the same");
        Mutagenry works = made(1, 47, 13, 104, 0);
        add(works, 1, 47, 13, 0, 104);
        add(works, 1, 48, 101);
        works.addOracle('d', 0, 1);
        works.addOracle('d', 0, 2);
        works.addOracle('d', 0, 0);
        works.addTest(0, given(4));
        works.addTest(0, given(2));
        works.addTest(0, given(0));
        due("4 / 4 alone", works.holds(0), 1);
        due("both throw 1", works.holds(1), 1);
        due("itself", works.holds(2), 3);
        says("999 holds never");
        for (char kind : "pzcd".toCharArray()) {
            due(kind + " of 999", holdsOf(kind, 2, 0, 44, 101, 45, 46), 0);
        }
        Mutagenry one = made(2, 44, 0, 45, 46);
        one.addOracle('c', 0, 0);
        one.addTest(0, number(0, 1, 0));
        one.addTest(0, number(0, 0, 0));
        due("999 as they are exchanged", one.holds(0), 1);
    }

    private static void oracleLimits() {
        says("It kills a mutant, on a test, if it holds for the program, and not for the mutant, each .. the limit");
        Mutagenry just = longer(0, 2, 7);
        just.addTest(0, given(-8));
        just.addOracle('z', 0, 0);
        due("40 steps of 40, 45 steps of 40", just.oracleKills(0, 0), 2);
        Mutagenry works = only("s", made(1, 45, 42, 14, 0, 100, 48, 101, 47, 0, 46));
        add(works, 1, 47, 0);
        works.setFunction(1, false);
        works.addOracle('p', 0, 0);
        works.addOracle('z', 0, 0);
        works.addOracle('d', 0, 1);
        works.addTest(0, given(-1));
        works.addTest(0, given(5));
        works.addTest(1, given(5));
        works.addTest(0, given(0));
        due("the program", works.holds(0) + " " + works.holds(1) + " " + works.holds(2), "2 2 2");
        due("nothing where it does not hold for the program", works.oracleKills(0, 0) + " " + works.oracleKills(1, 0),
                "0 0");
        due("0 for 5 is not less than 0", works.oracleKills(0, 1), 0);
        due("0 for 5 is not as the peer", works.oracleKills(2, 1), 2);
        Mutagenry peer = only("s", made(1, 47, 0));
        add(peer, 1, 47, 0);
        peer.setFunction(0, false);
        peer.addOracle('d', 0, 1);
        peer.addTest(0, given(3));
        due("of the program, behind a mutant's run", peer.alone(0, 0) + " " + peer.holds(0), "3 1");
        due("a mutant of the peer", peer.oracleKills(0, 0) + " " + peer.kills(0), "1 0");
    }

    private static Mutagenry all(int many) {
        Mutagenry works = only("c", made(0, numbers(many / 2, 1)));
        works.addTest(0, 0);
        return works;
    }

    private static void samples() {
        says("the mutant k changes places with that of k plus the bits of z from the bit 16 on, .. modulo ..");
        // of 1 and 2, the first one is drawn first, or the second one; the argument 3 tells them apart
        Mutagenry two = only("s", made(1, 45, 40, 1, 0, 47, 0, 46));
        two.addTest(0, given(3));
        due("the second one is killed alone", killsOf(two), "0 1");
        for (int seed : new int[] {0, 1, 2, 3, -1, 65535, 65536, 1 << 30, Integer.MIN_VALUE, Integer.MAX_VALUE}) {
            int z = 1103515245 * seed + 12345;
            due("seed " + seed, two.sample(seed, 1), (z >>> 16) % 2);
            due("seed " + seed + ", both", two.sample(seed, 2), 1);
        }
        says("the sample are the first ones; Returns how many mutants of a sample are killed");
        due("all of 150, 15 being killed", sums().sample(7, 150), 15);
        due("1 of all killed ones", all(6).sample(7, 1), 1);
        says("Its bound is the least number of killed mutants among all, .. are one in 20 or more of all");
        due("3 of 3, of 6: 1 of 20", all(6).bound(9, 3), 3);
        due("2 of 2, of 6: 1 of 15", all(6).bound(9, 2), 2);
        due("1 of 1, of 20: 1 of 20", all(20).bound(9, 1), 1);
        due("1 of 1, of 22: 2 of 22", all(22).bound(9, 1), 2);
        due("1 of 1, of 40: 2 of 40", all(40).bound(9, 1), 2);
        due("1 of 1, of 42: 3 of 42", all(42).bound(9, 1), 3);
        due("all of 50", all(50).bound(9, 50), 50);
        due("25 of 25, of 50", all(50).bound(9, 25), 46);
        due("none is killed", flags(0).bound(5, 3), 0);
    }

    /** 150 mutants, those of the second function being killed. */
    private static Mutagenry sums() {
        Mutagenry works = only("c", made(0, numbers(45, 3)));
        add(works, 0, numbers(5, 3));
        works.addTest(1, 0);
        return works;
    }

    // ------------------------------------------------------------------ counts

    private static String programCall(Mutagenry works, int call) {
        switch (call) {
            case 0: return "" + works.outcome(0, given(3));
            case 1: return "" + works.steps(0, given(3));
            case 2: return "" + works.expected(0);
            case 3: return "" + works.far(0, given(3), 4, false);
            case 4: return "" + (works.climb(0, 4, true) - ZEROS);
            case 5: return "" + works.after(0, 0);
            case 6: return "" + works.holds(0);
            case 7: return "" + works.holds(1);
            case 8: return "" + works.covers(0) + works.ways();
            case 9: return "" + works.leans(0);
            default: return "" + works.killing(0, 0) / 256;
        }
    }

    private static void counts() {
        says("Returns the outcome of a function: of the program, whatever runs were ahead");
        Mutagenry mixed = only("s", made(1, 45, 51, 0, 0, 47, 10, 24, 0, 101, 46));
        mixed.addTest(0, given(3));
        mixed.addOracle('p', 0, 0);
        mixed.addOracle('d', 0, 0);
        String[] due = {"4", "3", "4", "4", "0", "4", "1", "1", "70", "false", "0"};
        for (int call = 0; call < due.length; call++) {
            mixed.setLimit(call + 10);
            due("the mutants", mixed.alone(0, 0) + " " + mixed.alone(1, 0) + " " + mixed.pairKills(0, 1), "1 0 1");
            due("call " + call, programCall(mixed, call), due[call]);
        }
        says("functions, tests, changes: 0 at first");
        Mutagenry works = new Mutagenry();
        due("at first", works.functions() + " " + works.tests() + " " + works.changes() + " " + works.mutants() + " "
                + works.places() + " " + works.erase(), "0 0 0 0 0 0");
        says("meanKills: the sum divided by their number, both converted to double");
        due("7 of 4", flags(4, 2, 6).meanKills(), 7.0 / 4.0);
        due("15 of 150", sums().meanKills(), 15.0 / 150.0);
        due("no tests", flags().meanKills(), 0.0);
        says("isSound: Returns whether this holds");
        due("a new object", works.isSound(), true);
        due("no tests", flags().isSound(), true);
        due("tests that kill none", flags(0, 0).isSound(), true);
        due("three tests", flags(4, 2, 6).isSound(), true);
        due("16 tests", flags(0, 1, 2, 3, 4, 5, 6, 7, 7, 6, 5, 4, 3, 2, 1, 0).isSound(), true);
        due("150 mutants", sums().isSound(), true);
        says("An object is used for at most 512 calls");
        Mutagenry last = new Mutagenry();
        for (int i = 0; i < 249; i++) {
            last.type(47);
            last.erase();
        }
        for (int word : new int[] {47, 10, 0, 101}) {
            last.type(word);
        }
        last.define(1);
        last.addTest(0, given(7));
        due("the last calls", last.expected(0) + " " + last.mutants() + " " + last.kills(0) + " " + last.told(1, 0) + " "
                + last.isLike(1) + " " + last.isSound() + " " + last.leastSet(true) + " " + last.changes(),
                "-8 6 1 k - true 1 0");
    }
}
