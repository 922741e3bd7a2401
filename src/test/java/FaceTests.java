import java.lang.reflect.Constructor;
import java.lang.reflect.Field;
import java.lang.reflect.Method;
import java.lang.reflect.Modifier;
import java.util.Set;
import java.util.TreeSet;

/** The face of the class is that of the document, with nothing more. */
public final class FaceTests {
    private static final String[] FACE = {
        "int type(int) IllegalArgumentException,IllegalStateException",
        "int erase()",
        "int wrongAt(int) IllegalArgumentException",
        "int define(int) IllegalArgumentException,UnsupportedOperationException,IllegalStateException",
        "int change(int) IndexOutOfBoundsException,UnsupportedOperationException",
        "int places()",
        "int wordOf(int) IndexOutOfBoundsException",
        "int outcome(int,int) IndexOutOfBoundsException,IllegalArgumentException",
        "int steps(int,int) IndexOutOfBoundsException,IllegalArgumentException",
        "int setLimit(int) IllegalArgumentException",
        "boolean setOperator(char,boolean) IllegalArgumentException",
        "boolean setFunction(int,boolean) IndexOutOfBoundsException",
        "int mutants()",
        "int placeOf(int) IndexOutOfBoundsException",
        "char operatorOf(int) IndexOutOfBoundsException",
        "int mutatedWord(int) IndexOutOfBoundsException",
        "int addTest(int,int) IndexOutOfBoundsException,IllegalArgumentException,IllegalStateException",
        "int expected(int) IndexOutOfBoundsException",
        "char told(int,int) IndexOutOfBoundsException",
        "int alone(int,int) IndexOutOfBoundsException",
        "int kills(int) IndexOutOfBoundsException",
        "long runs()",
        "char isLike(int) IndexOutOfBoundsException",
        "boolean isSubsumed(int,int) IndexOutOfBoundsException",
        "int minimals()",
        "int minimalAt(int) NoSuchElementException",
        "float score(int,boolean) IllegalArgumentException,ArithmeticException",
        "int orderAt(int) NoSuchElementException",
        "int leastSet(boolean)",
        "int covers(int) IndexOutOfBoundsException",
        "int ways()",
        "int pairKills(int,int) IndexOutOfBoundsException,UnsupportedOperationException",
        "int masked(int,int) IndexOutOfBoundsException,UnsupportedOperationException",
        "boolean isHarder(int,int) IndexOutOfBoundsException,UnsupportedOperationException",
        "int killing(int,int) IndexOutOfBoundsException,NoSuchElementException",
        "int far(int,int,int,boolean) IndexOutOfBoundsException,IllegalArgumentException,UnsupportedOperationException",
        "int climb(int,int,boolean) IndexOutOfBoundsException,UnsupportedOperationException,NoSuchElementException",
        "int after(int,int) IndexOutOfBoundsException",
        "boolean leans(int) IndexOutOfBoundsException",
        "float prediction(char) IllegalArgumentException",
        "int counted(char,boolean) IllegalArgumentException",
        "int addOracle(char,int,int) IllegalArgumentException,IndexOutOfBoundsException,UnsupportedOperationException,IllegalStateException",
        "int holds(int) IndexOutOfBoundsException",
        "int oracleKills(int,int) IndexOutOfBoundsException",
        "int sample(int,int) IllegalArgumentException",
        "int bound(int,int) IllegalArgumentException,UnsupportedOperationException",
        "int functions()",
        "int tests()",
        "int changes()",
        "double meanKills() ArithmeticException",
        "boolean isSound()",
    };
    private static int wrong;

    public static void main(String[] args) {
        Class<?> it = Mutagenry.class;
        due("the class is public and final", it.getModifiers(), Modifier.PUBLIC | Modifier.FINAL);
        Set<String> due = new TreeSet<>(Set.of(FACE));
        Set<String> hidden = new TreeSet<>();
        Set<String> got = new TreeSet<>();
        for (Method method : it.getDeclaredMethods()) {
            if (!Modifier.isPrivate(method.getModifiers())) {
                got.add(told(method));
            } else {
                hidden.add(method.getName());
            }
        }
        due("the methods", got, due);
        for (String sign : FACE) {
            String name = sign.substring(sign.indexOf(' ') + 1, sign.indexOf('('));
            due("a private method named " + name, hidden.contains(name), false);
        }
        due("constructors", it.getDeclaredConstructors().length, 1);
        for (Constructor<?> constructor : it.getDeclaredConstructors()) {
            due("the constructor", constructor.getModifiers() + " " + constructor.getParameterCount(), "1 0");
        }
        for (Field field : it.getDeclaredFields()) {
            due("private: " + field, Modifier.isPrivate(field.getModifiers()), true);
        }
        due("some twelve classes", it.getDeclaredClasses().length <= 12, true);
        for (Class<?> inner : it.getDeclaredClasses()) {
            due("static: " + inner, Modifier.isStatic(inner.getModifiers()), true);
            due("some twenty fields: " + inner, fields(inner) <= 20, true);
        }
        System.out.println(wrong == 0 ? "the face is that of the document" : wrong + " wrong");
        if (wrong != 0) {
            System.exit(1);
        }
    }

    private static int fields(Class<?> inner) {
        int found = 0;
        for (Field field : inner.getDeclaredFields()) {
            found += Modifier.isStatic(field.getModifiers()) ? 0 : 1;
        }
        return found;
    }

    private static String told(Method method) {
        StringBuilder text = new StringBuilder();
        text.append(method.getReturnType()).append(' ').append(method.getName()).append('(');
        for (Class<?> type : method.getParameterTypes()) {
            text.append(text.charAt(text.length() - 1) == '(' ? "" : ",").append(type);
        }
        text.append(')');
        String before = " ";
        for (Class<?> type : method.getExceptionTypes()) {
            text.append(before).append(type.getSimpleName());
            before = ",";
        }
        return text.toString();
    }

    private static void due(String what, Object got, Object want) {
        if (!got.equals(want)) {
            wrong++;
            System.out.println(what + ": " + got + ", due is " + want);
        }
    }
}
