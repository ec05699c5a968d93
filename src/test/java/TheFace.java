import java.lang.reflect.Constructor;
import java.lang.reflect.Field;
import java.lang.reflect.Method;
import java.lang.reflect.Modifier;
import java.util.ArrayList;
import java.util.Arrays;
import java.util.Collections;
import java.util.List;

/** The public face, member by member, and that nothing else can be seen from outside (rule 1 of LANGUAGE.md). */
public final class TheFace {
    private static final String I = "IndexOutOfBoundsException";
    private static final String A = "IllegalArgumentException";
    private static final String S = "IllegalStateException";
    private static final String U = "UnsupportedOperationException";
    private static final String N = "NoSuchElementException";
    private static final String M = "ArithmeticException";

    private static final String[] FACE = {
        "int add(int, char) " + I + " " + A + " " + S + " " + U,
        "int addWord(int, int) " + I + " " + A + " " + U + " " + S,
        "int setSize(int, int, int) " + I + " " + A,
        "int setMargins(int, int, int, int, int) " + I + " " + A,
        "int setPadding(int, int) " + I + " " + A,
        "int setFactors(int, int, int) " + I + " " + A,
        "int setColumns(int, int) " + I + " " + A,
        "char setFloat(int, char) " + I + " " + A,
        "char setPlace(int, char, int, int) " + I + " " + A,
        "int setDepth(int, int) " + I + " " + A,
        "boolean setClear(int, boolean) " + I,
        "char setBreak(int, char) " + I + " " + A,
        "char setAlignment(int, char) " + I + " " + A,
        "int layOut(int) " + A,
        "int xOf(int) " + I + " " + S,
        "int yOf(int) " + I + " " + S,
        "int widthOf(int) " + I + " " + S,
        "int heightOf(int) " + I + " " + S,
        "int lines(int) " + I + " " + S + " " + U,
        "int wordsIn(int, int) " + I + " " + S + " " + U + " " + N,
        "int lineX(int, int) " + I + " " + S + " " + U + " " + N,
        "int lineY(int, int) " + I + " " + S + " " + U + " " + N,
        "int leastWidth(int) " + I,
        "int greatestWidth(int) " + I,
        "int hit(int, int) " + S + " " + N,
        "int pages(int) " + A + " " + S,
        "int pageOf(int, int, int) " + A + " " + I + " " + S + " " + N,
        "int contexts()",
        "long area() " + S,
        "float filled() " + S + " " + M,
        "double meanLine() " + S + " " + M,
        "boolean isConsistent()",
    };

    private static int wrong = 0;

    private static void holds(boolean holds, String what) {
        if (!holds) {
            wrong++;
            System.out.println("not so: " + what);
        }
    }

    public static void main(String[] args) {
        face();
        inside();
        System.out.println(wrong == 0 ? "the face is as due" : wrong + " things are not as due");
        if (wrong != 0) System.exit(1);
    }

    private static void face() {
        List<String> want = new ArrayList<>(Arrays.asList(FACE));
        List<String> got = new ArrayList<>();
        List<String> names = new ArrayList<>();
        for (Method m : ColumnarPress.class.getDeclaredMethods()) {
            if (Modifier.isPrivate(m.getModifiers())) continue;
            holds(Modifier.isPublic(m.getModifiers()) && !Modifier.isStatic(m.getModifiers()), m + " is of the face");
            names.add(m.getName());
            got.add(signature(m));
        }
        Collections.sort(want);
        Collections.sort(got);
        holds(want.equals(got), "the face is " + want + " and not " + got);
        for (Constructor<?> c : ColumnarPress.class.getDeclaredConstructors()) {
            holds(Modifier.isPublic(c.getModifiers()) && c.getParameterCount() == 0, c + " is of the face");
        }
        for (Field f : ColumnarPress.class.getDeclaredFields()) {
            holds(Modifier.isPrivate(f.getModifiers()), f + " is private");
        }
        int of = ColumnarPress.class.getModifiers();
        holds(Modifier.isPublic(of) && Modifier.isFinal(of), "the class is public and final");
        for (Class<?> c : withInside()) {
            for (Method m : c.getDeclaredMethods()) {
                if (c == ColumnarPress.class && Modifier.isPublic(m.getModifiers())) continue;
                holds(!names.contains(m.getName()), "no other method is called " + m.getName());
            }
        }
    }

    private static String signature(Method m) {
        StringBuilder text = new StringBuilder();
        text.append(m.getReturnType().getSimpleName()).append(' ').append(m.getName()).append('(');
        for (int i = 0; i < m.getParameterCount(); i++) {
            text.append(i > 0 ? ", " : "").append(m.getParameterTypes()[i].getSimpleName());
        }
        text.append(')');
        for (Class<?> e : m.getExceptionTypes()) text.append(' ').append(e.getSimpleName());
        return text.toString();
    }

    private static List<Class<?>> withInside() {
        List<Class<?>> list = new ArrayList<>();
        list.add(ColumnarPress.class);
        list.addAll(Arrays.asList(ColumnarPress.class.getDeclaredClasses()));
        return list;
    }

    private static void inside() {
        for (Class<?> c : ColumnarPress.class.getDeclaredClasses()) {
            int of = c.getModifiers();
            holds(Modifier.isStatic(of) && !Modifier.isPublic(of) && !Modifier.isProtected(of), c + " is static and not to be seen");
        }
    }
}
