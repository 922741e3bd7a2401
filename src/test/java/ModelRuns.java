import java.util.ArrayList;
import java.util.Arrays;
import java.util.HashMap;
import java.util.HashSet;
import java.util.List;
import java.util.Map;
import java.util.NoSuchElementException;
import java.util.Random;
import java.util.Set;
import java.util.TreeSet;
import java.util.function.IntPredicate;
import java.util.function.Supplier;

/**
 * Runs of drawn calls (always the same ones), each answered by the class and by a plain model of the document: a tree
 * that is walked by recursion, with nothing kept from one answer to the next one.
 */
public final class ModelRuns {
    private static final String OPERATORS = "carluvns";
    private static int wrong;
    private static long calls;
    private static final Map<String, Integer> seen = new HashMap<>();

    public static void main(String[] args) {
        int runs = args.length > 0 ? Integer.parseInt(args[0]) : 500;
        int from = args.length > 1 ? Integer.parseInt(args[1]) : 0;
        for (int run = from; run < from + runs && wrong < 20; run++) {
            new Drawn(run).go();
        }
        if (args.length > 2) {
            seen.keySet().stream().sorted().forEach(k -> System.out.println(k + "  " + seen.get(k)));
        }
        System.out.println(calls + " calls in " + runs + " runs, " + wrong + " wrong");
        if (wrong != 0) {
            System.exit(1);
        }
    }

    // ------------------------------------------------------------------ the drawn calls

    private static final class Drawn {
        final int run;
        final Random random;
        final Mutagenry works = new Mutagenry();
        final Model model = new Model();
        final StringBuilder log = new StringBuilder();
        final int style;
        int budget = 500;

        Drawn(int itsRun) {
            run = itsRun;
            random = new Random(9176 + 31L * itsRun);
            style = random.nextInt(6);
        }

        int draw(int bound) {
            return random.nextInt(bound);
        }

        void compare(String call, Supplier<Object> got, Supplier<Object> due) {
            if (budget-- <= 0 || wrong >= 20) {
                return;
            }
            calls++;
            String one = answer(got);
            String other = answer(due);
            log.append(call).append(" -> ").append(one).append('\n');
            String kind = call.substring(0, call.indexOf('('));
            boolean isPlain = one.length() > 1 && !one.startsWith("throws") && !one.equals("true");
            seen.merge(kind + " " + (isPlain ? "others" : one), 1, Integer::sum);
            if (!one.equals(other)) {
                wrong++;
                System.out.println("run " + run + ": " + call + " answered " + one + ", due is " + other);
                if (wrong == 1) {
                    System.out.println(log);
                }
            }
        }

        static String answer(Supplier<Object> call) {
            try {
                return String.valueOf(call.get());
            } catch (RuntimeException e) {
                return "throws " + e.getClass().getSimpleName();
            }
        }

        void go() {
            int functions = 1 + draw(style == 0 ? 1 : 3);
            for (int i = 0; i < functions; i++) {
                defineOne(-1);
            }
            int tests = 1 + draw(7);
            for (int i = 0; i < tests; i++) {
                addTest();
            }
            while (budget > 0) {
                step();
            }
        }

        void step() {
            int kind = draw(100);
            if (kind < 1) {
                defineOne(-1);
            } else if (kind < 3) {
                defineOne(model.codes.isEmpty() ? 0 : draw(model.codes.size() + 1));
            } else if (kind < 5) {
                typeWrong();
            } else if (kind < 8) {
                addTest();
            } else if (kind < 10) {
                int limit = draw(4) != 0 ? draw(420) : 10 + draw(30);
                compare("setLimit(" + limit + ")", () -> works.setLimit(limit), () -> model.setLimit(limit));
            } else if (kind < 12) {
                char operator = draw(12) == 0 ? 'x' : OPERATORS.charAt(draw(8));
                boolean is = draw(3) != 0;
                compare("setOperator(" + operator + "," + is + ")", () -> works.setOperator(operator, is),
                        () -> model.setOperator(operator, is));
            } else if (kind < 13) {
                int function = function();
                boolean is = draw(3) != 0;
                compare("setFunction(" + function + "," + is + ")", () -> works.setFunction(function, is),
                        () -> model.setFunction(function, is));
            } else if (kind < 15) {
                addOracle();
            } else if (kind < 40) {
                askProgram();
            } else if (kind < 70) {
                askMutant();
            } else if (kind < 85) {
                askSets();
            } else {
                askRest();
            }
        }

        int function() {
            return draw(15) == 0 ? draw(7) - 1 : draw(Math.max(1, model.codes.size()));
        }

        int arguments() {
            if (draw(25) == 0) {
                return draw(2) == 0 ? -1 - draw(5) : 4095 + draw(3);
            }
            if (draw(3) == 0) {
                return draw(4096);
            }
            return 256 * (6 + draw(5)) + 16 * (6 + draw(5)) + 6 + draw(5);
        }

        int mutant() {
            int many = model.mutants().size();
            return draw(25) == 0 ? (draw(2) == 0 ? -1 : many + draw(3)) : draw(Math.max(1, many));
        }

        int test() {
            int many = model.tests.size();
            return draw(20) == 0 ? (draw(2) == 0 ? -1 : many + draw(2)) : draw(Math.max(1, many));
        }

        int place() {
            int many = model.nodes().size();
            return draw(20) == 0 ? (draw(2) == 0 ? -1 : many + draw(2)) : draw(Math.max(1, many));
        }

        void addTest() {
            int function = function();
            int arguments = arguments();
            compare("addTest(" + function + "," + arguments + ")", () -> works.addTest(function, arguments),
                    () -> model.addTest(function, arguments));
        }

        void addOracle() {
            char kind = "pzcdx".charAt(draw(20) == 0 ? 4 : draw(4));
            int function = function();
            int peer = function();
            compare("addOracle(" + kind + "," + function + "," + peer + ")",
                    () -> works.addOracle(kind, function, peer), () -> model.addOracle(kind, function, peer));
        }

        void type(int word) {
            compare("type(" + word + ")", () -> works.type(word), () -> model.type(word));
        }

        void erase() {
            compare("erase()", works::erase, model::erase);
        }

        void define(int changed, int parameters) {
            compare("wrongAt(" + parameters + ")", () -> works.wrongAt(parameters), () -> model.wrongAt(parameters));
            if (changed >= 0) {
                compare("change(" + changed + ")", () -> works.change(changed), () -> model.change(changed));
            } else {
                compare("define(" + parameters + ")", () -> works.define(parameters),
                        () -> model.define(parameters));
            }
        }

        void defineOne(int changed) {
            if (!model.row.isEmpty()) {
                erase();
            }
            int parameters = draw(30) == 0 ? draw(6) - 1 : style == 1 ? draw(2) : 1 + draw(8) * draw(8) % 3;
            if (style == 5 && parameters == 3) {
                parameters = 2;
            }
            int own = changed >= 0 && changed < model.codes.size() ? changed : model.codes.size();
            int given = changed >= 0 && changed < model.codes.size() ? model.parameters.get(changed) : parameters;
            List<Integer> words = new ArrayList<>();
            int size = 2 + draw(3);
            for (int tries = 0; tries < 30; tries++) {
                words.clear();
                statement(words, size, own, Math.max(0, Math.min(3, given)), true);
                if (words.size() <= (style == 2 ? 90 : 45) && (words.size() > 9 || draw(9) == 0)) {
                    break;
                }
            }
            for (int i = 0; i < Math.min(90, words.size()); i++) {
                type(words.get(i));
            }
            define(changed, parameters);
        }

        void typeWrong() {
            int many = 1 + draw(12);
            for (int i = 0; i < many; i++) {
                type(draw(30) == 0 ? draw(120) - 6 : draw(108));
            }
            define(draw(2) == 0 ? -1 : function(), draw(4));
            if (draw(2) == 0) {
                erase();
            }
        }

        void statement(List<Integer> out, int size, int own, int parameters, boolean isWhole) {
            int kind = draw(100);
            if (isWhole && draw(12) != 0) {
                out.add(45);
                int many = 1 + draw(3);
                for (int i = 0; i < many; i++) {
                    statement(out, size - 1, own, parameters, false);
                }
                if (draw(12) != 0) {
                    out.add(47);
                    out.add(10 + draw(2));
                    expression(out, size - 1, own, parameters);
                    expression(out, size - 1, own, parameters);
                }
                out.add(46);
            } else if (size > 0 && kind < 16) {
                out.add(42);
                expression(out, size - 1, own, parameters);
                statement(out, size - 1, own, parameters, false);
            } else if (size > 0 && kind < 28) {
                out.add(43);
                expression(out, size - 1, own, parameters);
                statement(out, size - 1, own, parameters, false);
                statement(out, size - 1, own, parameters, false);
            } else if (size > 0 && kind < 34) {
                loop(out, size, own, parameters);
            } else if (size > 0 && kind < 46) {
                out.add(45);
                int many = draw(3);
                for (int i = 0; i < many; i++) {
                    statement(out, size - 1, own, parameters, false);
                }
                out.add(46);
            } else if (size > 0 && kind < 54) {
                out.add(49);
                statement(out, size - 1, own, parameters, false);
                out.add(draw(4));
                statement(out, size - 1, own, parameters, false);
            } else if (kind < 62 && style != 5) {
                out.add(51);
                out.add(draw(4));
                expression(out, size - 1, own, parameters);
            } else if (kind < 69) {
                out.add(41);
                if (draw(5) == 0) {
                    expression(out, size - 1, own, parameters);
                } else {
                    out.add(100 + draw(4));
                }
                expression(out, size - 1, own, parameters);
            } else if (kind < 72) {
                out.add(draw(3) != 0 ? 47 : 48);
                expression(out, size - 1, own, parameters);
            } else {
                out.add(40);
                out.add(draw(8) == 0 ? draw(8) : draw(3));
                expression(out, size - 1, own, parameters);
            }
        }

        void loop(List<Integer> out, int size, int own, int parameters) {
            out.add(44);
            if (draw(6) == 0) {
                expression(out, size - 1, own, parameters);
                statement(out, size - 1, own, parameters, false);
                return;
            }
            // a loop that counts down, and mostly ends
            int name = draw(3);
            out.addAll(draw(2) == 0 ? List.of(name) : List.of(14, 100, name));
            out.add(45);
            statement(out, size - 2, own, parameters, false);
            out.addAll(List.of(40, name, 11, name, 101, 46));
        }

        void leaf(List<Integer> out, int parameters) {
            if (draw(4) != 0) {
                out.add(draw(8) == 0 ? draw(8) : draw(Math.max(1, parameters)));
            } else {
                out.add(draw(3) == 0 ? 92 + draw(16) : 99 + draw(4));
            }
        }

        void expression(List<Integer> out, int size, int own, int parameters) {
            int kind = draw(100);
            int most = style == 3 ? Math.max(own, model.codes.size() - 1) : own - 1;
            if (size <= 0 || kind < 30 || most < 0 && kind >= (style == 5 ? 84 : 92)) {
                leaf(out, parameters);
            } else if (kind < 54) {
                int word = 10 + draw(4);
                out.add(word == 13 && draw(2) == 0 ? 10 : word);
                expression(out, size - 1, own, parameters);
                expression(out, size - 1, own, parameters);
            } else if (kind < 69) {
                out.add(14 + draw(6));
                expression(out, size - 1, own, parameters);
                expression(out, size - 1, own, parameters);
            } else if (kind < 78) {
                out.add(20 + draw(2));
                expression(out, size - 1, own, parameters);
            } else if (kind < 84) {
                out.add(22);
                if (draw(5) == 0) {
                    expression(out, size - 1, own, parameters);
                } else {
                    out.add(100 + draw(4));
                }
            } else if (kind < 92 && style != 5) {
                out.add(24);
                out.add(draw(4));
            } else {
                int function = draw(Math.min(4, most + 1));
                out.add(30 + function);
                int parts = function == own ? parameters : model.parameters.get(function);
                for (int i = 0; i < parts; i++) {
                    expression(out, size - 2, own, parameters);
                }
            }
        }

        void askProgram() {
            int function = function();
            int arguments = arguments();
            int place = place();
            boolean is = draw(2) == 0;
            switch (draw(9)) {
                case 0:
                    compare("places()", works::places, () -> model.nodes().size());
                    break;
                case 1:
                    compare("wordOf(" + place + ")", () -> works.wordOf(place), () -> model.wordOf(place));
                    break;
                case 2:
                case 3:
                    compare("outcome(" + function + "," + arguments + ")", () -> works.outcome(function, arguments),
                            () -> model.outcome(function, arguments));
                    break;
                case 4:
                    compare("steps(" + function + "," + arguments + ")", () -> works.steps(function, arguments),
                            () -> model.steps(function, arguments));
                    break;
                case 5:
                case 6:
                    compare("far(" + function + "," + arguments + "," + place + "," + is + ")",
                            () -> works.far(function, arguments, place, is),
                            () -> model.far(function, arguments, place, is));
                    break;
                case 7:
                    compare("climb(" + function + "," + place + "," + is + ")",
                            () -> works.climb(function, place, is), () -> model.climb(function, place, is));
                    break;
                default:
                    compare("functions()", works::functions, () -> model.codes.size());
                    break;
            }
        }

        void askMutant() {
            int mutant = mutant();
            int other = mutant();
            int test = test();
            int function = function();
            switch (draw(16)) {
                case 0:
                    compare("mutants()", works::mutants, () -> model.mutants().size());
                    break;
                case 1:
                    compare("placeOf(" + mutant + ")", () -> works.placeOf(mutant), () -> model.mutant(mutant).place);
                    break;
                case 2:
                    compare("operatorOf(" + mutant + ")", () -> works.operatorOf(mutant),
                            () -> model.mutant(mutant).operator);
                    break;
                case 3:
                    compare("mutatedWord(" + mutant + ")", () -> works.mutatedWord(mutant),
                            () -> model.mutant(mutant).word);
                    break;
                case 4:
                case 5:
                case 6:
                    compare("told(" + mutant + "," + test + ")", () -> works.told(mutant, test),
                            () -> model.told(mutant, test));
                    break;
                case 7:
                    compare("alone(" + mutant + "," + test + ")", () -> works.alone(mutant, test),
                            () -> model.alone(mutant, test));
                    break;
                case 8:
                    compare("kills(" + mutant + ")", () -> works.kills(mutant), () -> model.kills(mutant));
                    break;
                case 9:
                    compare("isLike(" + mutant + ")", () -> works.isLike(mutant), () -> model.isLike(mutant));
                    break;
                case 10:
                    compare("isSubsumed(" + mutant + "," + other + ")", () -> works.isSubsumed(mutant, other),
                            () -> model.isSubsumed(mutant, other));
                    break;
                case 11:
                    compare("pairKills(" + mutant + "," + other + ")", () -> works.pairKills(mutant, other),
                            () -> model.pairKills(mutant, other));
                    break;
                case 12:
                    compare("masked(" + mutant + "," + other + ")", () -> works.masked(mutant, other),
                            () -> model.masked(mutant, other));
                    break;
                case 13:
                    compare("isHarder(" + mutant + "," + other + ")", () -> works.isHarder(mutant, other),
                            () -> model.isHarder(mutant, other));
                    break;
                case 14:
                    if (function >= 0 && function < model.codes.size() && model.parameters.get(function) == 3
                            && draw(8) != 0) {
                        break;
                    }
                    compare("killing(" + mutant + "," + function + ")", () -> works.killing(mutant, function),
                            () -> model.killing(mutant, function));
                    break;
                default:
                    int oracle = draw(Math.max(1, model.oracles.size() + (draw(9) == 0 ? 1 : 0)));
                    compare("oracleKills(" + oracle + "," + mutant + ")", () -> works.oracleKills(oracle, mutant),
                            () -> model.oracleKills(oracle, mutant));
                    break;
            }
        }

        void askSets() {
            int index = draw(8) - 1;
            int sum = draw(15) == 0 ? draw(200) - 20 : draw(1 << model.tests.size());
            boolean is = draw(2) == 0;
            int seed = random.nextInt();
            int many = draw(Math.max(1, model.mutants().size() + 2));
            switch (draw(10)) {
                case 0:
                    compare("minimals()", works::minimals, () -> model.minimals().size());
                    break;
                case 1:
                    compare("minimalAt(" + index + ")", () -> works.minimalAt(index), () -> model.minimalAt(index));
                    break;
                case 2:
                case 3:
                    compare("score(" + sum + "," + is + ")", () -> works.score(sum, is), () -> model.score(sum, is));
                    break;
                case 4:
                    compare("orderAt(" + index + ")", () -> works.orderAt(index), () -> model.orderAt(index));
                    break;
                case 5:
                    compare("leastSet(" + is + ")", () -> works.leastSet(is), () -> model.leastSet(is));
                    break;
                case 6:
                    compare("sample(" + seed + "," + many + ")", () -> works.sample(seed, many),
                            () -> model.sample(seed, many));
                    break;
                case 7:
                    compare("bound(" + seed + "," + many + ")", () -> works.bound(seed, many),
                            () -> model.bound(seed, many));
                    break;
                case 8:
                    compare("meanKills()", works::meanKills, model::meanKills);
                    break;
                default:
                    compare("runs()", works::runs, model::runs);
                    break;
            }
        }

        void askRest() {
            int test = test();
            int other = test();
            char operator = draw(15) == 0 ? 'C' : OPERATORS.charAt(draw(8));
            boolean is = draw(2) == 0;
            switch (draw(11)) {
                case 0:
                    compare("expected(" + test + ")", () -> works.expected(test), () -> model.expected(test));
                    break;
                case 1:
                    compare("covers(" + test + ")", () -> works.covers(test), () -> model.covers(test));
                    break;
                case 2:
                    compare("ways()", works::ways, model::ways);
                    break;
                case 3:
                case 4:
                    compare("after(" + test + "," + other + ")", () -> works.after(test, other),
                            () -> model.after(test, other));
                    break;
                case 5:
                    compare("leans(" + test + ")", () -> works.leans(test), () -> model.leans(test));
                    break;
                case 6:
                    compare("prediction(" + operator + ")", () -> works.prediction(operator),
                            () -> model.prediction(operator));
                    break;
                case 7:
                    compare("counted(" + operator + "," + is + ")", () -> works.counted(operator, is),
                            () -> model.counted(operator, is));
                    break;
                case 8:
                    int oracle = draw(Math.max(1, model.oracles.size() + (draw(9) == 0 ? 1 : 0)));
                    compare("holds(" + oracle + ")", () -> works.holds(oracle), () -> model.holds(oracle));
                    break;
                case 9:
                    compare("tests()", works::tests, () -> model.tests.size());
                    break;
                default:
                    if (draw(3) == 0) {
                        compare("isSound()", works::isSound, () -> true);
                    } else {
                        compare("changes()", works::changes, () -> model.changes);
                    }
                    break;
            }
        }
    }

    // ------------------------------------------------------------------ the model

    private static final class Wrong extends RuntimeException {
        final int at;

        Wrong(int itsAt) {
            super(null, null, false, false);
            at = itsAt;
        }
    }

    private static final class Thrown extends RuntimeException {
        final int value;

        Thrown(int itsValue) {
            super(null, null, false, false);
            value = itsValue;
        }
    }

    private static final class Returned extends RuntimeException {
        final int value;

        Returned(int itsValue) {
            super(null, null, false, false);
            value = itsValue;
        }
    }

    private static final class Passed extends RuntimeException {
        Passed() {
            super(null, null, false, false);
        }
    }

    private static final class Node {
        int function;
        int word;
        boolean isStatement;
        int target = -1;
        int place;
        final List<Node> parts = new ArrayList<>();

        boolean has(Node other) {
            if (this == other) {
                return true;
            }
            for (Node part : parts) {
                if (part.has(other)) {
                    return true;
                }
            }
            return false;
        }
    }

    private static final class Mutant {
        Node node;
        int place;
        char operator;
        int word;
    }

    private static final class Parser {
        final List<Integer> row;
        final Map<Integer, Integer> arities;
        int next;

        Parser(List<Integer> itsRow, Map<Integer, Integer> itsArities) {
            row = itsRow;
            arities = itsArities;
        }

        int take(IntPredicate fits) {
            if (next >= row.size() || !fits.test(row.get(next))) {
                throw new Wrong(next);
            }
            return row.get(next++);
        }

        Node whole() {
            Node node = statement();
            if (next < row.size()) {
                throw new Wrong(next);
            }
            return node;
        }

        Node statement() {
            Node node = new Node();
            node.isStatement = true;
            node.word = take(w -> w == 40 || w == 41 || w == 42 || w == 43 || w == 44 || w == 45 || w == 47 || w == 48
                    || w == 49 || w == 51);
            switch (node.word) {
                case 40:
                    node.target = take(w -> w < 8);
                    node.parts.add(expression());
                    break;
                case 51:
                    node.target = take(w -> w < 4);
                    node.parts.add(expression());
                    break;
                case 41:
                    node.parts.add(expression());
                    node.parts.add(expression());
                    break;
                case 42:
                case 44:
                    node.parts.add(expression());
                    node.parts.add(statement());
                    break;
                case 43:
                    node.parts.add(expression());
                    node.parts.add(statement());
                    node.parts.add(statement());
                    break;
                case 45:
                    while (next >= row.size() || row.get(next) != 46) {
                        node.parts.add(statement());
                    }
                    next++;
                    break;
                case 49:
                    node.parts.add(statement());
                    node.target = take(w -> w < 8);
                    node.parts.add(statement());
                    break;
                default:
                    node.parts.add(expression());
                    break;
            }
            return node;
        }

        Node expression() {
            Node node = new Node();
            node.word = take(w -> w < 8 || w > 91 || w >= 10 && w <= 22 || w == 24 || arities.containsKey(w - 30));
            int parts = 0;
            if (node.word >= 10 && node.word <= 19) {
                parts = 2;
            } else if (node.word >= 20 && node.word <= 22) {
                parts = 1;
            } else if (node.word == 24) {
                node.target = take(w -> w < 4);
            } else if (node.word >= 30 && node.word <= 33) {
                parts = arities.get(node.word - 30);
            }
            for (int i = 0; i < parts; i++) {
                node.parts.add(expression());
            }
            return node;
        }
    }

    private static final class Frame {
        final int[] names = new int[8];
        final int[] cells = new int[4];
        int depth;
    }

    private static final class Run {
        final Model model;
        final int[] hidden;
        Map<Node, Mutant> spoils = new HashMap<>();
        int limit;
        int steps;
        int code;
        final Set<Node> come = new HashSet<>();
        final Set<String> ways = new HashSet<>();
        Node sought;
        boolean isSo;
        int distance = 99;
        Node followed;
        boolean isInfected;

        Run(Model itsModel, int[] itsHidden, int itsLimit) {
            model = itsModel;
            hidden = itsHidden;
            limit = itsLimit;
        }

        Run of(int function, int arguments) {
            int[] given = {(arguments >> 8) - 8, (arguments >> 4) % 16 - 8, arguments % 16 - 8};
            try {
                code = call(function, Arrays.copyOf(given, model.parameters.get(function)), 1);
            } catch (Thrown e) {
                code = 100 + e.value;
            } catch (Passed e) {
                code = 999;
            }
            return this;
        }

        int call(int function, int[] given, int depth) {
            Frame frame = new Frame();
            frame.depth = depth;
            System.arraycopy(given, 0, frame.names, 0, given.length);
            try {
                execute(model.trees.get(function), frame);
                return 0;
            } catch (Returned e) {
                return e.value;
            }
        }

        void step() {
            steps++;
            if (steps > limit) {
                throw new Passed();
            }
        }

        boolean ask(Node node, Frame frame) {
            boolean is = find(node.parts.get(0), frame) != 0;
            if (spoils.containsKey(node)) {
                is = !is;
            }
            ways.add(node.place + " " + is);
            return is;
        }

        void execute(Node node, Frame frame) {
            come.add(node);
            Mutant spoil = spoils.get(node);
            if (spoil != null && spoil.operator == 's') {
                return;
            }
            step();
            switch (node.word) {
                case 40:
                    frame.names[node.target] = find(node.parts.get(0), frame);
                    break;
                case 41:
                    int cell = find(node.parts.get(0), frame);
                    int value = find(node.parts.get(1), frame);
                    if (cell < 0 || cell > 3) {
                        throw new Thrown(2);
                    }
                    frame.cells[cell] = value;
                    break;
                case 42:
                    if (ask(node, frame)) {
                        execute(node.parts.get(1), frame);
                    }
                    break;
                case 43:
                    execute(node.parts.get(ask(node, frame) ? 1 : 2), frame);
                    break;
                case 44:
                    step();
                    while (ask(node, frame)) {
                        execute(node.parts.get(1), frame);
                        step();
                    }
                    break;
                case 45:
                    for (Node part : node.parts) {
                        execute(part, frame);
                    }
                    break;
                case 47:
                    throw new Returned(find(node.parts.get(0), frame));
                case 48:
                    throw new Thrown(find(node.parts.get(0), frame));
                case 49:
                    try {
                        execute(node.parts.get(0), frame);
                    } catch (Thrown e) {
                        frame.names[node.target] = e.value;
                        execute(node.parts.get(1), frame);
                    }
                    break;
                default:
                    hidden[node.target] = find(node.parts.get(0), frame);
                    break;
            }
        }

        String told(Supplier<Integer> call) {
            try {
                return "value " + call.get();
            } catch (Thrown e) {
                return "thrown " + e.value;
            }
        }

        /** What the program would give at a place, found aside. */
        String aside(Node node, Frame frame) {
            int[] kept = hidden.clone();
            Run other = new Run(model, hidden, 100);
            String found;
            try {
                found = other.told(() -> other.find(node, frame));
            } catch (Passed e) {
                found = "nothing";
            }
            System.arraycopy(kept, 0, hidden, 0, 4);
            return found;
        }

        int find(Node node, Frame frame) {
            come.add(node);
            if (node != followed) {
                return findIt(node, frame);
            }
            String due = aside(node, frame);
            try {
                int value = findIt(node, frame);
                isInfected |= !due.equals("value " + value);
                return value;
            } catch (Thrown e) {
                isInfected |= !due.equals("thrown " + e.value);
                throw e;
            }
        }

        int findIt(Node node, Frame frame) {
            Mutant spoil = spoils.get(node);
            if (spoil != null && spoil.operator == 'u') {
                return find(node.parts.get(0), frame);
            }
            int word = spoil == null ? node.word : spoil.word;
            int[] parts = new int[node.parts.size()];
            for (int i = 0; i < parts.length; i++) {
                parts[i] = find(node.parts.get(i), frame);
            }
            int value = value(node, word, parts, frame);
            if (node == sought) {
                distance = Math.min(distance, distanceOf(word, parts, value));
            }
            return value;
        }

        int value(Node node, int word, int[] parts, Frame frame) {
            if (word < 8) {
                return frame.names[word];
            }
            if (word > 91) {
                return word - 100;
            }
            if (word == 24) {
                return hidden[node.target];
            }
            if (word == 22) {
                if (parts[0] < 0 || parts[0] > 3) {
                    throw new Thrown(2);
                }
                return frame.cells[parts[0]];
            }
            if (word >= 30) {
                if (frame.depth == 12) {
                    throw new Thrown(3);
                }
                return call(word - 30, parts, frame.depth + 1);
            }
            if (word == 13 && parts[1] == 0) {
                throw new Thrown(1);
            }
            return plain(word, parts);
        }

        int distanceOf(int word, int[] p, int value) {
            switch (word) {
                case 14:
                    return Math.max(0, isSo ? p[0] - p[1] + 1 : p[1] - p[0]);
                case 15:
                    return Math.max(0, isSo ? p[0] - p[1] : p[1] - p[0] + 1);
                case 16:
                    return isSo ? Math.abs(p[0] - p[1]) : p[0] == p[1] ? 1 : 0;
                case 17:
                    return isSo ? (p[0] == p[1] ? 1 : 0) : Math.abs(p[0] - p[1]);
                default:
                    return isSo ? (value == 0 ? 1 : 0) : Math.abs(value);
            }
        }
    }

    static int wrap(int value) {
        int cut = Math.floorMod(value, 16);
        return cut > 7 ? cut - 16 : cut;
    }

    static int plain(int word, int[] p) {
        switch (word) {
            case 10:
                return wrap(p[0] + p[1]);
            case 11:
                return wrap(p[0] - p[1]);
            case 12:
                return wrap(p[0] * p[1]);
            case 13:
                return wrap(p[0] / p[1]);
            case 14:
                return p[0] < p[1] ? 1 : 0;
            case 15:
                return p[0] <= p[1] ? 1 : 0;
            case 16:
                return p[0] == p[1] ? 1 : 0;
            case 17:
                return p[0] != p[1] ? 1 : 0;
            case 18:
                return p[0] != 0 && p[1] != 0 ? 1 : 0;
            case 19:
                return p[0] != 0 || p[1] != 0 ? 1 : 0;
            case 20:
                return wrap(-p[0]);
            case 21:
                return p[0] == 0 ? 1 : 0;
            default:
                throw new IllegalStateException("no such word " + word);
        }
    }

    private static final class Model {
        final List<Integer> row = new ArrayList<>();
        final List<List<Integer>> codes = new ArrayList<>();
        final List<Integer> parameters = new ArrayList<>();
        final List<Node> trees = new ArrayList<>();
        final List<int[]> tests = new ArrayList<>();
        final List<int[]> oracles = new ArrayList<>();
        final Set<Character> off = new HashSet<>();
        final Set<Integer> functionsOff = new HashSet<>();
        final Map<Character, Integer> countedAll = new HashMap<>();
        final Map<Character, Integer> countedKilled = new HashMap<>();
        int limit = 200;
        int changes;
        private List<Mutant> listed;
        private final Map<Integer, Run> testRuns = new HashMap<>();

        void check(boolean is, RuntimeException e) {
            if (!is) {
                throw e;
            }
        }

        void checkIndex(int index, int size) {
            check(index >= 0 && index < size, new IndexOutOfBoundsException());
        }

        void checkArguments(int arguments) {
            check(arguments >= 0 && arguments < 4096, new IllegalArgumentException());
        }

        int type(int word) {
            check(word >= 0 && word <= 107, new IllegalArgumentException());
            check(row.size() < 90, new IllegalStateException());
            row.add(word);
            return row.size();
        }

        int erase() {
            int many = row.size();
            row.clear();
            return many;
        }

        Map<Integer, Integer> arities(int own, int given) {
            Map<Integer, Integer> all = new HashMap<>();
            for (int i = 0; i < parameters.size(); i++) {
                all.put(i, parameters.get(i));
            }
            if (own < 4) {
                all.put(own, given);
            }
            return all;
        }

        int wrongFor(int given, int own) {
            try {
                new Parser(row, arities(own, given)).whole();
                return -1;
            } catch (Wrong e) {
                return e.at;
            }
        }

        int wrongAt(int given) {
            check(given >= 0 && given <= 3, new IllegalArgumentException());
            return wrongFor(given, codes.size());
        }

        int define(int given) {
            check(given >= 0 && given <= 3, new IllegalArgumentException());
            check(wrongFor(given, codes.size()) < 0, new UnsupportedOperationException());
            check(codes.size() < 4, new IllegalStateException());
            int own = codes.size();
            codes.add(List.copyOf(row));
            parameters.add(given);
            trees.add(new Parser(row, arities(own, given)).whole());
            stale();
            row.clear();
            return own;
        }

        int change(int function) {
            checkIndex(function, codes.size());
            check(wrongFor(parameters.get(function), function) < 0, new UnsupportedOperationException());
            for (int i = 0; i < mutants().size(); i++) {
                char operator = mutants().get(i).operator;
                countedAll.merge(operator, 1, Integer::sum);
                countedKilled.merge(operator, kills(i) != 0 ? 1 : 0, Integer::sum);
            }
            codes.set(function, List.copyOf(row));
            trees.set(function, new Parser(row, arities(function, parameters.get(function))).whole());
            stale();
            row.clear();
            changes++;
            return changes;
        }

        void stale() {
            listed = null;
            testRuns.clear();
            int place = 0;
            for (int i = 0; i < trees.size(); i++) {
                List<Node> found = new ArrayList<>();
                collect(trees.get(i), found);
                for (Node node : found) {
                    node.function = i;
                    node.place = place++;
                }
            }
        }

        void collect(Node node, List<Node> into) {
            into.add(node);
            for (Node part : node.parts) {
                collect(part, into);
            }
        }

        List<Node> nodes() {
            List<Node> found = new ArrayList<>();
            for (Node tree : trees) {
                collect(tree, found);
            }
            return found;
        }

        int wordOf(int place) {
            checkIndex(place, nodes().size());
            return nodes().get(place).word;
        }

        Run plainRun(int function, int arguments) {
            return new Run(this, new int[4], limit).of(function, arguments);
        }

        int outcome(int function, int arguments) {
            checkIndex(function, codes.size());
            checkArguments(arguments);
            return plainRun(function, arguments).code;
        }

        int steps(int function, int arguments) {
            checkIndex(function, codes.size());
            checkArguments(arguments);
            return plainRun(function, arguments).steps;
        }

        int setLimit(int given) {
            check(given >= 10 && given <= 400, new IllegalArgumentException());
            int before = limit;
            limit = given;
            testRuns.clear();
            return before;
        }

        boolean setOperator(char operator, boolean is) {
            check(OPERATORS.indexOf(operator) >= 0, new IllegalArgumentException());
            listed = null;
            boolean was = !off.contains(operator);
            if (is) {
                off.remove(operator);
            } else {
                off.add(operator);
            }
            return was;
        }

        boolean setFunction(int function, boolean is) {
            checkIndex(function, codes.size());
            listed = null;
            boolean was = !functionsOff.contains(function);
            if (is) {
                functionsOff.remove(function);
            } else {
                functionsOff.add(function);
            }
            return was;
        }

        List<Mutant> mutants() {
            if (listed == null) {
                listed = new ArrayList<>();
                for (Node node : nodes()) {
                    if (!functionsOff.contains(node.function)) {
                        addMutants(node);
                    }
                }
                if (listed.size() > 150) {
                    listed = new ArrayList<>(listed.subList(0, 150));
                }
            }
            return listed;
        }

        void addMutant(Node node, char operator, int word) {
            if (!off.contains(operator)) {
                Mutant mutant = new Mutant();
                mutant.node = node;
                mutant.place = node.place;
                mutant.operator = operator;
                mutant.word = word;
                listed.add(mutant);
            }
        }

        void addMutants(Node node) {
            int word = node.word;
            if (node.isStatement) {
                if (word == 42 || word == 43 || word == 44) {
                    addMutant(node, 'n', word);
                } else if (word != 45 && word != 49) {
                    addMutant(node, 's', word);
                }
            } else if (word > 91) {
                List<Integer> made = new ArrayList<>();
                for (int value : new int[] {wrap(word - 99), wrap(word - 101), 0}) {
                    if (value != word - 100 && !made.contains(value)) {
                        made.add(value);
                        addMutant(node, 'c', 100 + value);
                    }
                }
            } else if (word < 8) {
                for (int other : occurring(node.function)) {
                    if (other != word) {
                        addMutant(node, 'v', other);
                    }
                }
            } else if (word == 20 || word == 21) {
                addMutant(node, 'u', node.parts.get(0).word);
            } else {
                int[][] groups = {{10, 13, 'a'}, {14, 17, 'r'}, {18, 19, 'l'}};
                for (int[] group : groups) {
                    for (int other = group[0]; word >= group[0] && word <= group[1] && other <= group[1]; other++) {
                        if (other != word) {
                            addMutant(node, (char) group[2], other);
                        }
                    }
                }
            }
        }

        Set<Integer> occurring(int function) {
            Set<Integer> found = new TreeSet<>();
            for (int i = 0; i < parameters.get(function); i++) {
                found.add(i);
            }
            List<Node> all = new ArrayList<>();
            collect(trees.get(function), all);
            for (Node node : all) {
                if (!node.isStatement && node.word < 8) {
                    found.add(node.word);
                }
                if (node.isStatement && (node.word == 40 || node.word == 49)) {
                    found.add(node.target);
                }
            }
            return found;
        }

        Mutant mutant(int index) {
            checkIndex(index, mutants().size());
            return mutants().get(index);
        }

        int addTest(int function, int arguments) {
            checkIndex(function, codes.size());
            checkArguments(arguments);
            check(tests.size() < 16, new IllegalStateException());
            tests.add(new int[] {function, arguments});
            return tests.size() - 1;
        }

        Run testRun(int test) {
            return testRuns.computeIfAbsent(test, t -> plainRun(tests.get(t)[0], tests.get(t)[1]));
        }

        int expected(int test) {
            checkIndex(test, tests.size());
            return testRun(test).code;
        }

        int limitBy(Run run) {
            return run.steps > limit ? limit : 4 * run.steps + 20;
        }

        int limitOf(int test) {
            return limitBy(testRun(test));
        }

        Run spoiledRun(List<Mutant> spoils, int function, int arguments, int most, Node followed) {
            Run run = new Run(this, new int[4], most);
            for (Mutant mutant : spoils) {
                run.spoils.put(mutant.node, mutant);
            }
            run.followed = followed;
            return run.of(function, arguments);
        }

        boolean isKilled(List<Mutant> spoils, int test) {
            int code = spoiledRun(spoils, tests.get(test)[0], tests.get(test)[1], limitOf(test), null).code;
            return code != testRun(test).code;
        }

        char told(int index, int test) {
            Mutant mutant = mutant(index);
            checkIndex(test, tests.size());
            Run run = spoiledRun(List.of(mutant), tests.get(test)[0], tests.get(test)[1], limitOf(test), mutant.node);
            if (run.code != testRun(test).code) {
                return 'k';
            }
            if (!run.come.contains(mutant.node)) {
                return '-';
            }
            return run.isInfected || mutant.node.isStatement ? 'i' : 'r';
        }

        int alone(int index, int test) {
            Mutant mutant = mutant(index);
            checkIndex(test, tests.size());
            return spoiledRun(List.of(mutant), tests.get(test)[0], tests.get(test)[1], limitOf(test), null).code;
        }

        int killsOf(List<Mutant> spoils) {
            int sum = 0;
            for (int test = 0; test < tests.size(); test++) {
                sum += isKilled(spoils, test) ? 1 << test : 0;
            }
            return sum;
        }

        int kills(int index) {
            return killsOf(List.of(mutant(index)));
        }

        long runs() {
            long sum = 0;
            for (int test = 0; test < tests.size(); test++) {
                sum++;
                for (Mutant mutant : mutants()) {
                    sum += testRun(test).come.contains(mutant.node) ? 1 : 0;
                }
            }
            return sum;
        }

        List<Integer> simple(Node node, Mutant mutant) {
            int word = node.word;
            if (mutant.node == node) {
                if (mutant.operator == 'u') {
                    return simple(node.parts.get(0), mutant);
                }
                word = mutant.word;
            }
            List<List<Integer>> parts = new ArrayList<>();
            for (Node part : node.parts) {
                parts.add(simple(part, mutant));
            }
            if (!node.isStatement) {
                List<Integer> shorter = shorter(word, parts);
                if (shorter != null) {
                    return shorter;
                }
            }
            List<Integer> found = new ArrayList<>();
            found.add(word);
            if (node.target >= 0 && word != 49) {
                found.add(node.target);
            }
            for (int i = 0; i < parts.size(); i++) {
                if (word == 49 && i == 1) {
                    found.add(node.target);
                }
                found.addAll(parts.get(i));
            }
            if (word == 45) {
                found.add(46);
            }
            return found;
        }

        static boolean isNumber(List<Integer> part) {
            return part.size() == 1 && part.get(0) > 91;
        }

        static boolean isLeaf(List<Integer> part) {
            return part.size() == 1 && (part.get(0) > 91 || part.get(0) < 8);
        }

        List<Integer> shorter(int word, List<List<Integer>> parts) {
            if (word < 10 || word > 21) {
                return null;
            }
            List<Integer> zero = List.of(100);
            List<Integer> one = List.of(101);
            List<Integer> first = parts.get(0);
            List<Integer> second = parts.size() > 1 ? parts.get(1) : null;
            boolean areNumbers = isNumber(first) && (second == null || isNumber(second));
            if (areNumbers && !(word == 13 && second.equals(zero))) {
                int[] values = {first.get(0) - 100, second == null ? 0 : second.get(0) - 100};
                return List.of(100 + plain(word, values));
            }
            if (word == 10 && first.equals(zero) || word == 12 && first.equals(one)) {
                return second;
            }
            if ((word == 10 || word == 11) && second.equals(zero) || word == 12 && second.equals(one)) {
                return first;
            }
            if (word == 20 && first.get(0) == 20) {
                return first.subList(1, first.size());
            }
            boolean isTurned = List.of(10, 12, 16, 17, 18, 19).contains(word) && isLeaf(first) && isLeaf(second)
                    && second.get(0) < first.get(0);
            return isTurned ? List.of(word, second.get(0), first.get(0)) : null;
        }

        boolean isOneForm(Mutant mutant) {
            if (mutant.node.isStatement) {
                return false;
            }
            Node tree = trees.get(mutant.node.function);
            return simple(tree, new Mutant()).equals(simple(tree, mutant));
        }

        boolean differs(Mutant mutant, int function, int arguments) {
            Run run = plainRun(function, arguments);
            return spoiledRun(List.of(mutant), function, arguments, limitBy(run), null).code != run.code;
        }

        List<Integer> inputs(int function) {
            List<Integer> found = new ArrayList<>();
            int given = parameters.get(function);
            for (int i = 0; i < 4096; i++) {
                if ((given > 2 || i % 16 == 8) && (given > 1 || i / 16 % 16 == 8) && (given > 0 || i / 256 == 8)) {
                    found.add(i);
                }
            }
            return found;
        }

        char isLike(int index) {
            Mutant mutant = mutant(index);
            if (isOneForm(mutant)) {
                return 'n';
            }
            if (parameters.contains(3) || nodes().stream().anyMatch(n -> !n.isStatement && n.word == 24)) {
                return '-';
            }
            for (int function = 0; function < codes.size(); function++) {
                for (int arguments : inputs(function)) {
                    if (differs(mutant, function, arguments)) {
                        return '-';
                    }
                }
            }
            return 'b';
        }

        static boolean subsumes(int by, int kills) {
            return by != 0 && by != kills && (by | kills) == kills;
        }

        boolean isSubsumed(int index, int by) {
            mutant(index);
            mutant(by);
            return subsumes(kills(by), kills(index));
        }

        List<Integer> allKills() {
            List<Integer> found = new ArrayList<>();
            for (int i = 0; i < mutants().size(); i++) {
                found.add(kills(i));
            }
            return found;
        }

        List<Integer> minimals() {
            List<Integer> all = allKills();
            List<Integer> found = new ArrayList<>();
            for (int i = 0; i < all.size(); i++) {
                int kills = all.get(i);
                if (kills != 0 && all.indexOf(kills) == i && all.stream().noneMatch(k -> subsumes(k, kills))) {
                    found.add(i);
                }
            }
            return found;
        }

        int minimalAt(int index) {
            List<Integer> found = minimals();
            check(index >= 0 && index < found.size(), new NoSuchElementException());
            return found.get(index);
        }

        float score(int sum, boolean isMinimal) {
            check(sum >= 0 && sum < 1 << tests.size(), new IllegalArgumentException());
            int all = 0;
            int had = 0;
            List<Integer> minimals = isMinimal ? minimals() : List.of();
            for (int i = 0; i < mutants().size(); i++) {
                boolean isOf = isMinimal ? minimals.contains(i) : !isOneForm(mutants().get(i));
                all += isOf ? 1 : 0;
                had += isOf && (kills(i) & sum) != 0 ? 1 : 0;
            }
            check(all != 0, new ArithmeticException());
            return (float) ((double) had / all);
        }

        int orderAt(int index) {
            check(index >= 0 && index < tests.size(), new NoSuchElementException());
            List<Integer> all = allKills();
            List<Integer> order = new ArrayList<>();
            while (order.size() <= index) {
                int best = -1;
                long most = -1;
                for (int test = 0; test < tests.size(); test++) {
                    int it = test;
                    if (order.contains(test)) {
                        continue;
                    }
                    long found = all.stream().filter(k -> (k >> it & 1) == 1
                            && order.stream().noneMatch(t -> (k >> t & 1) == 1)).count();
                    if (found > most) {
                        most = found;
                        best = test;
                    }
                }
                order.add(best);
            }
            return order.get(index);
        }

        int leastSet(boolean isKills) {
            Set<Integer> masks = new HashSet<>();
            if (isKills) {
                masks.addAll(allKills());
            } else {
                for (Node node : nodes()) {
                    int sum = 0;
                    for (int test = 0; test < tests.size(); test++) {
                        sum += testRun(test).come.contains(node) ? 1 << test : 0;
                    }
                    masks.add(sum);
                }
            }
            masks.remove(0);
            int best = -1;
            for (int set = 0; set < 1 << tests.size(); set++) {
                int it = set;
                if (masks.stream().allMatch(m -> (m & it) != 0)
                        && (best < 0 || Integer.bitCount(set) < Integer.bitCount(best))) {
                    best = set;
                }
            }
            return best;
        }

        int covers(int test) {
            checkIndex(test, tests.size());
            return testRun(test).come.size();
        }

        int ways() {
            Set<String> all = new HashSet<>();
            for (int test = 0; test < tests.size(); test++) {
                all.addAll(testRun(test).ways);
            }
            return all.size();
        }

        List<Mutant> pair(int first, int second) {
            Mutant one = mutant(first);
            Mutant other = mutant(second);
            check(!one.node.has(other.node) && !other.node.has(one.node), new UnsupportedOperationException());
            return List.of(one, other);
        }

        int pairKills(int first, int second) {
            return killsOf(pair(first, second));
        }

        int masked(int first, int second) {
            int sum = 0;
            int both = pairKills(first, second);
            for (int test = 0; test < tests.size(); test++) {
                boolean isOne = ((kills(first) | kills(second)) >> test & 1) == 1;
                sum += isOne && (both >> test & 1) == 0 ? 1 << test : 0;
            }
            return sum;
        }

        boolean isHarder(int first, int second) {
            int both = pairKills(first, second);
            boolean isAll = true;
            for (int test = 0; test < tests.size(); test++) {
                if ((both >> test & 1) == 1) {
                    isAll &= (kills(first) >> test & 1) == 1 && (kills(second) >> test & 1) == 1;
                }
            }
            return both != 0 && isAll;
        }

        int killing(int index, int function) {
            Mutant mutant = mutant(index);
            checkIndex(function, codes.size());
            for (int arguments : inputs(function)) {
                if (differs(mutant, function, arguments)) {
                    return arguments;
                }
            }
            throw new NoSuchElementException();
        }

        int distance(int function, int arguments, Node node, boolean isSo) {
            Run run = new Run(this, new int[4], limit);
            run.sought = node;
            run.isSo = isSo;
            return run.of(function, arguments).distance;
        }

        int far(int function, int arguments, int place, boolean isSo) {
            checkIndex(function, codes.size());
            checkIndex(place, nodes().size());
            checkArguments(arguments);
            check(!nodes().get(place).isStatement, new UnsupportedOperationException());
            return distance(function, arguments, nodes().get(place), isSo);
        }

        int climb(int function, int place, boolean isSo) {
            checkIndex(function, codes.size());
            checkIndex(place, nodes().size());
            check(!nodes().get(place).isStatement, new UnsupportedOperationException());
            Node node = nodes().get(place);
            int[] at = {0, 0, 0};
            int here = distance(function, number(at), node, isSo);
            boolean isOn = true;
            while (isOn) {
                int[] best = null;
                int least = here;
                for (int i = 0; i < parameters.get(function); i++) {
                    for (int by = 1; by >= -1; by -= 2) {
                        int[] next = at.clone();
                        next[i] = wrap(next[i] + by);
                        int found = distance(function, number(next), node, isSo);
                        if (found < least) {
                            least = found;
                            best = next;
                        }
                    }
                }
                isOn = best != null;
                if (isOn) {
                    at = best;
                    here = least;
                }
            }
            check(here == 0, new NoSuchElementException());
            return number(at);
        }

        int number(int[] at) {
            return 256 * (at[0] + 8) + 16 * (at[1] + 8) + at[2] + 8;
        }

        int after(int test, int before) {
            checkIndex(test, tests.size());
            checkIndex(before, tests.size());
            int[] hidden = new int[4];
            new Run(this, hidden, limit).of(tests.get(before)[0], tests.get(before)[1]);
            return new Run(this, hidden, limit).of(tests.get(test)[0], tests.get(test)[1]).code;
        }

        boolean leans(int test) {
            checkIndex(test, tests.size());
            for (int before = 0; before < tests.size(); before++) {
                if (before != test && after(test, before) != expected(test)) {
                    return true;
                }
            }
            return false;
        }

        int counted(char operator, boolean areKilled) {
            check(OPERATORS.indexOf(operator) >= 0, new IllegalArgumentException());
            return (areKilled ? countedKilled : countedAll).getOrDefault(operator, 0);
        }

        float prediction(char operator) {
            return (float) (counted(operator, true) + 1) / (float) (counted(operator, false) + 2);
        }

        int addOracle(char kind, int function, int peer) {
            check("pzcd".indexOf(kind) >= 0, new IllegalArgumentException());
            checkIndex(function, codes.size());
            if (kind == 'd') {
                checkIndex(peer, codes.size());
                check(parameters.get(function).equals(parameters.get(peer)), new UnsupportedOperationException());
            }
            check(kind != 'c' || parameters.get(function) >= 2, new UnsupportedOperationException());
            check(oracles.size() < 8, new IllegalStateException());
            oracles.add(new int[] {kind, function, peer});
            return oracles.size() - 1;
        }

        boolean isHeld(int[] oracle, int test, List<Mutant> spoils, int most) {
            int arguments = tests.get(test)[1];
            int code = spoiledRun(spoils, oracle[1], arguments, most, null).code;
            if (code == 999) {
                return false;
            }
            switch (oracle[0]) {
                case 'p':
                    return code < 8 && code >= 0;
                case 'z':
                    return code < 8;
                case 'c':
                    int turned = arguments / 16 % 16 * 256 + arguments / 256 * 16 + arguments % 16;
                    return code == spoiledRun(spoils, oracle[1], turned, most, null).code;
                default:
                    return code == spoiledRun(spoils, oracle[2], arguments, most, null).code;
            }
        }

        int holds(int index) {
            checkIndex(index, oracles.size());
            int found = 0;
            for (int test = 0; test < tests.size(); test++) {
                boolean isOf = tests.get(test)[0] == oracles.get(index)[1];
                found += isOf && isHeld(oracles.get(index), test, List.of(), limit) ? 1 : 0;
            }
            return found;
        }

        int oracleKills(int index, int mutant) {
            checkIndex(index, oracles.size());
            List<Mutant> spoils = List.of(mutant(mutant));
            int sum = 0;
            for (int test = 0; test < tests.size(); test++) {
                int[] oracle = oracles.get(index);
                boolean isKilled = tests.get(test)[0] == oracle[1] && isHeld(oracle, test, List.of(), limit)
                        && !isHeld(oracle, test, spoils, limitOf(test));
                sum += isKilled ? 1 << test : 0;
            }
            return sum;
        }

        int sample(int seed, int many) {
            check(many >= 1 && many <= mutants().size(), new IllegalArgumentException());
            List<Integer> order = new ArrayList<>();
            for (int i = 0; i < mutants().size(); i++) {
                order.add(i);
            }
            int z = seed;
            int found = 0;
            for (int k = 0; k < mutants().size(); k++) {
                z = 1103515245 * z + 12345;
                int bits = (int) ((z & 0xffffffffL) / 65536);
                int with = k + bits % (order.size() - k);
                java.util.Collections.swap(order, k, with);
                found += k < many && kills(order.get(k)) != 0 ? 1 : 0;
            }
            return found;
        }

        static java.math.BigInteger choose(int all, int taken) {
            java.math.BigInteger found = java.math.BigInteger.ONE;
            if (taken < 0 || taken > all) {
                return java.math.BigInteger.ZERO;
            }
            for (int i = 0; i < taken; i++) {
                found = found.multiply(java.math.BigInteger.valueOf(all - i))
                        .divide(java.math.BigInteger.valueOf(i + 1));
            }
            return found;
        }

        int bound(int seed, int many) {
            int found = sample(seed, many);
            int all = mutants().size();
            check(all <= 50, new UnsupportedOperationException());
            for (int killed = 0; killed <= all; killed++) {
                java.math.BigInteger sum = java.math.BigInteger.ZERO;
                for (int i = found; i <= many; i++) {
                    sum = sum.add(choose(killed, i).multiply(choose(all - killed, many - i)));
                }
                if (sum.multiply(java.math.BigInteger.valueOf(20)).compareTo(choose(all, many)) >= 0) {
                    return killed;
                }
            }
            throw new IllegalStateException("no bound");
        }

        double meanKills() {
            check(!mutants().isEmpty(), new ArithmeticException());
            int sum = 0;
            for (int i = 0; i < mutants().size(); i++) {
                sum += Integer.bitCount(kills(i));
            }
            return (double) sum / mutants().size();
        }
    }
}
