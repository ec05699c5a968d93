import java.util.NoSuchElementException;

/** What the tests by cases share: what was asked, what was answered, and what is due. */
abstract class Checks {
    interface Call { Object run(); }

    static final Class<?> INDEX = IndexOutOfBoundsException.class;
    static final Class<?> ARGUMENT = IllegalArgumentException.class;
    static final Class<?> STATE = IllegalStateException.class;
    static final Class<?> UNSUPPORTED = UnsupportedOperationException.class;
    static final Class<?> NO_ELEMENT = NoSuchElementException.class;
    static final Class<?> ARITHMETIC = ArithmeticException.class;

    static int wrong = 0;
    static int cases = 0;
    /** The promise or the sentence of the document to which the cases belong. */
    static String part = "";

    static void same(String what, Object got, Object want) {
        cases++;
        if (!got.equals(want)) {
            wrong++;
            System.out.println(part + ": " + what + " answered " + got + ", due is " + want);
        }
    }

    static void fails(String what, Class<?> want, Call call) {
        same(what, answer(call), want);
    }

    /** What a call answers, or the class of what it throws. */
    static Object answer(Call call) {
        try {
            return call.run();
        } catch (RuntimeException e) {
            return e.getClass();
        }
    }

    /** x, y, width and height of a box. */
    static void spot(ColumnarPress p, int box, int x, int y, int width, int height) {
        same("box " + box, p.xOf(box) + " " + p.yOf(box) + " " + p.widthOf(box) + " " + p.heightOf(box),
                x + " " + y + " " + width + " " + height);
    }

    /** x, y and number of words of each line. */
    static void rows(ColumnarPress p, int box, String want) {
        StringBuilder got = new StringBuilder();
        for (int i = 0; i < p.lines(box); i++) {
            if (i > 0) got.append(", ");
            got.append(p.lineX(box, i)).append(' ').append(p.lineY(box, i)).append(' ').append(p.wordsIn(box, i));
        }
        same("lines of " + box, got.toString(), want);
    }

    static int text(ColumnarPress p, int parent, int... lengths) {
        int box = p.add(parent, 't');
        for (int length : lengths) p.addWord(box, length);
        return box;
    }

    static int box(ColumnarPress p, int parent, char kind, int width, int height) {
        int box = p.add(parent, kind);
        p.setSize(box, width, height);
        return box;
    }

    static int floating(ColumnarPress p, int parent, char side, int width, int height) {
        int box = box(p, parent, 'b', width, height);
        p.setFloat(box, side);
        return box;
    }

    static void end() {
        System.out.println(cases + " cases, " + wrong + " wrong");
        if (wrong != 0) System.exit(1);
    }
}
