import java.util.ArrayList;
import java.util.List;

/**
 * "A method that throws an exception changes nothing. If several conditions for an exception hold, the exception
 * that is listed first is thrown." Each condition of each call is met alone, on the first value behind each end of
 * each range, and together with those that are listed behind it; behind each refused call all that can be asked
 * is compared with a twin that was not asked to do it.
 */
public final class RefusedCalls extends Checks {
    interface Deed { Object run(ColumnarPress p); }

    interface Scene { ColumnarPress make(); }

    private static final int WIDTH = 100;
    private static final int[] FAR_BOXES = {-1, Integer.MIN_VALUE, Integer.MAX_VALUE, 24, 256, -256};
    /** The number of boxes of the rich scene, and what is no box of it. */
    private static final int BOXES = 16;
    private static final int TEXT = 2;
    private static final int FULL_TEXT = 15;

    public static void main(String[] args) {
        part = "a refused call";
        numbers();
        kinds();
        boxes();
        adding();
        words();
        ofLayout();
        withoutArea();
        part = "several conditions hold";
        orderOfSetters();
        orderOfAdding();
        orderOfLayout();
        orderOfPages();
        end();
    }

    // ---- scenes

    /** Each kind of box, with settings that show in the layout. */
    private static ColumnarPress rich() {
        ColumnarPress p = new ColumnarPress();
        p.setPadding(0, 3);
        p.setDepth(0, -2);
        int f = floating(p, 0, 'l', 15, 12);                 // 1
        p.setMargins(f, 2, 3, 4, 5);
        int t = text(p, 0, 20, 30, 25);                      // 2
        p.setAlignment(t, 'c');
        p.setPadding(t, 1);
        int b = p.add(0, 'b');                               // 3
        p.setMargins(b, 6, -2, 3, 7);
        p.setPadding(b, 2);
        p.setPlace(b, 'r', 5, -3);
        p.setBreak(b, 'v');
        int in = text(p, b, 12, 13);                         // 4
        p.setAlignment(in, 'r');
        p.setClear(in, true);
        p.setDepth(in, 3);
        int row = p.add(0, 'f');                             // 5
        p.setPadding(row, 1);
        int one = text(p, row, 20, 22, 24);                  // 6
        p.setFactors(one, 2, 1);
        int two = text(p, row, 15, 16);                      // 7
        p.setFactors(two, 0, 3);
        p.setMargins(two, 3, 4, 5, 6);
        int grid = p.add(0, 'g');                            // 8
        p.setColumns(grid, 2);
        p.setPadding(grid, 2);
        text(p, grid, 9, 10);                                // 9
        p.setPlace(text(p, grid, 14), 'r', 1, 2);            // 10
        p.setMargins(box(p, grid, 'b', 8, 9), 1, 2, 3, 4);   // 11
        int out = p.add(b, 'b');                             // 12
        p.setPlace(out, 'a', -4, 6);
        text(p, out, 17);                                    // 13
        int r = p.add(0, 'b');                               // 14
        p.setFloat(r, 'r');
        p.setSize(r, 10, -1);
        p.setBreak(r, 'f');
        int full = p.add(0, 't');                            // 15
        for (int i = 0; i < 20; i++) p.addWord(full, 1 + i);
        return p;
    }

    /** 24 boxes, of which one is a text and one seven boxes deep. */
    private static ColumnarPress full() {
        ColumnarPress p = deep();
        while (p.add(0, 'b') < 23) p.setMargins(0, 0, 0, 0, 0);
        return p;
    }

    /** Box 7 is seven boxes deep, box 8 a text with a word, box 9 a text in which nothing is. */
    private static ColumnarPress deep() {
        ColumnarPress p = new ColumnarPress();
        for (int level = 1; level <= 7; level++) {
            p.add(level - 1, 'b');
            p.setPadding(level, 1);
        }
        text(p, 0, 30);
        p.add(6, 't');
        return p;
    }

    // ---- looking behind a refused call

    /** All that can be asked, and whether a layout stands and is kept. */
    private static String look(ColumnarPress p, int boxes, boolean settings) {
        List<Object> seen = new ArrayList<>();
        seen.add(answer(() -> p.xOf(0)));
        seen.add(p.contexts());
        seen.add(p.isConsistent());
        seen.add(p.layOut(WIDTH));
        seen.add(p.contexts());
        for (int b = 0; b < boxes; b++) {
            int box = b;
            seen.add(p.xOf(b) + " " + p.yOf(b) + " " + p.widthOf(b) + " " + p.heightOf(b));
            seen.add(p.leastWidth(b) + " " + p.greatestWidth(b));
            seen.add(answer(() -> p.lineX(box, 0) + " " + p.lineY(box, 0) + " " + p.wordsIn(box, 0)));
        }
        seen.add(answer(() -> p.pageOf(30, TEXT, 0)) + " " + p.pages(10) + " " + p.pages(60) + " " + p.pages(400));
        for (int y = -10; y < 200; y += 30) {
            int at = y;
            seen.add(answer(() -> p.hit(30, at)));
        }
        seen.add(p.area() + " " + p.filled() + " " + answer(p::meanLine));
        for (int b = 0; b < boxes && settings; b++) {
            int box = b;
            seen.add("" + p.setSize(b, 0, 0) + p.setMargins(b, 0, 0, 0, 0) + p.setPadding(b, 0) + p.setFactors(b, 0, 0));
            seen.add("" + p.setColumns(b, 1) + p.setFloat(b, 'n') + p.setPlace(b, 's', 0, 0) + p.setDepth(b, 0));
            seen.add("" + p.setClear(b, false) + p.setBreak(b, 'a') + p.setAlignment(b, 'l'));
            seen.add(answer(() -> p.addWord(box, 1)));
        }
        seen.add(answer(() -> p.add(0, 'b')));
        return seen.toString();
    }

    /** A scene that was never laid out, one that is, and one that was and had a change since. */
    private static ColumnarPress inState(Scene scene, int state) {
        ColumnarPress p = scene.make();
        if (state > 0) p.layOut(WIDTH);
        if (state > 1) p.setClear(6, false);
        return p;
    }

    private static void refusedIn(Scene scene, int boxes, int state, String what, Class<?> want, Deed deed) {
        boolean settings = boxes <= BOXES;
        ColumnarPress p = inState(scene, state);
        same(what, answer(() -> deed.run(p)), want);
        same("behind " + what, look(p, boxes, settings), look(inState(scene, state), boxes, settings));
    }

    private static void refused(String what, Class<?> want, Deed deed) {
        for (int state = 0; state < 3; state++) refusedIn(RefusedCalls::rich, BOXES, state, what, want, deed);
    }

    // ---- one condition

    /** The first numbers behind both ends of a range, and those farthest away. */
    private static int[] outside(int least, int greatest) {
        return new int[] {least - 1, greatest + 1, Integer.MIN_VALUE, Integer.MAX_VALUE};
    }

    private static void numbers() {
        for (int b = 0; b < BOXES; b++) {
            int box = b;
            for (int bad : outside(-1, 400)) {
                refused("setSize " + bad, ARGUMENT, p -> p.setSize(box, bad, 33));
                refused("setSize, " + bad, ARGUMENT, p -> p.setSize(box, 44, bad));
            }
            for (int bad : outside(-40, 40)) {
                refused("setMargins " + bad, ARGUMENT, p -> p.setMargins(box, bad, 11, 12, 13));
                refused("setMargins, " + bad, ARGUMENT, p -> p.setMargins(box, 14, bad, 12, 13));
            }
            for (int bad : outside(0, 40)) {
                refused("setMargins,, " + bad, ARGUMENT, p -> p.setMargins(box, 14, 11, bad, 13));
                refused("setMargins,,, " + bad, ARGUMENT, p -> p.setMargins(box, 14, 11, 12, bad));
            }
            for (int bad : outside(0, 20)) refused("setPadding " + bad, ARGUMENT, p -> p.setPadding(box, bad));
            for (int bad : outside(0, 9)) {
                refused("setFactors " + bad, ARGUMENT, p -> p.setFactors(box, bad, 7));
                refused("setFactors, " + bad, ARGUMENT, p -> p.setFactors(box, 8, bad));
            }
            for (int bad : outside(1, 4)) refused("setColumns " + bad, ARGUMENT, p -> p.setColumns(box, bad));
            for (int bad : outside(-100, 100)) {
                refused("setPlace " + bad, ARGUMENT, p -> p.setPlace(box, 'a', bad, 21));
                refused("setPlace, " + bad, ARGUMENT, p -> p.setPlace(box, 'a', 22, bad));
            }
            for (int bad : outside(-5, 5)) refused("setDepth " + bad, ARGUMENT, p -> p.setDepth(box, bad));
            for (int bad : outside(1, 60)) refused("addWord " + bad, ARGUMENT, p -> p.addWord(box, bad));
        }
        for (int bad : outside(0, 400)) refused("layOut " + bad, ARGUMENT, p -> p.layOut(bad));
        for (int bad : outside(10, 400)) {
            refused("pages " + bad, ARGUMENT, p -> p.pages(bad));
            refused("pageOf " + bad, ARGUMENT, p -> p.pageOf(bad, TEXT, 0));
        }
    }

    /** All signs but those that are taken, up to behind the letters, and some that are them but for higher bits. */
    private static char[] signsBut(String taken) {
        StringBuilder signs = new StringBuilder();
        for (char sign = 0; sign < 128; sign++) {
            if (taken.indexOf(sign) < 0) signs.append(sign);
        }
        for (int i = 0; i < taken.length(); i++) {
            signs.append((char) (taken.charAt(i) + 256)).append((char) (taken.charAt(i) + 65280));
        }
        return signs.append('\uffff').toString().toCharArray();
    }

    private static void kinds() {
        for (char bad : signsBut("btfg")) refused("add " + (int) bad, ARGUMENT, p -> p.add(0, bad));
        for (char bad : signsBut("nlr")) refused("setFloat " + (int) bad, ARGUMENT, p -> p.setFloat(3, bad));
        for (char bad : signsBut("sra")) refused("setPlace " + (int) bad, ARGUMENT, p -> p.setPlace(3, bad, 9, 9));
        for (char bad : signsBut("afv")) refused("setBreak " + (int) bad, ARGUMENT, p -> p.setBreak(3, bad));
        for (char bad : signsBut("lcr")) refused("setAlignment " + (int) bad, ARGUMENT, p -> p.setAlignment(2, bad));
    }

    private static void boxes() {
        int[] bad = new int[FAR_BOXES.length + 1];
        System.arraycopy(FAR_BOXES, 0, bad, 0, FAR_BOXES.length);
        bad[FAR_BOXES.length] = BOXES;
        for (int box : bad) {
            List<Deed> deeds = new ArrayList<>(onBox(box));
            deeds.add(p -> p.leastWidth(box));
            deeds.add(p -> p.greatestWidth(box));
            for (Deed deed : asking(box)) deeds.add(deed);
            for (int i = 0; i < deeds.size(); i++) refused("call " + i + " of box " + box, INDEX, deeds.get(i));
        }
    }

    /** The calls that change a box, with arguments that are in range. */
    private static List<Deed> onBox(int box) {
        List<Deed> deeds = new ArrayList<>();
        deeds.add(p -> p.add(box, 'b'));
        deeds.add(p -> p.addWord(box, 5));
        deeds.add(p -> p.setSize(box, 5, 5));
        deeds.add(p -> p.setMargins(box, 5, 5, 5, 5));
        deeds.add(p -> p.setPadding(box, 5));
        deeds.add(p -> p.setFactors(box, 5, 5));
        deeds.add(p -> p.setColumns(box, 2));
        deeds.add(p -> p.setFloat(box, 'l'));
        deeds.add(p -> p.setPlace(box, 'a', 5, 5));
        deeds.add(p -> p.setDepth(box, 5));
        deeds.add(p -> p.setClear(box, true));
        deeds.add(p -> p.setBreak(box, 'f'));
        deeds.add(p -> p.setAlignment(box, 'r'));
        return deeds;
    }

    /** The calls that ask for a box, and need a layout. */
    private static List<Deed> asking(int box) {
        List<Deed> deeds = new ArrayList<>();
        deeds.add(p -> p.xOf(box));
        deeds.add(p -> p.yOf(box));
        deeds.add(p -> p.widthOf(box));
        deeds.add(p -> p.heightOf(box));
        deeds.add(p -> p.pageOf(10, box, 0));
        deeds.addAll(askingText(box, 0));
        return deeds;
    }

    private static List<Deed> askingText(int box, int line) {
        List<Deed> deeds = new ArrayList<>();
        deeds.add(p -> p.lines(box));
        deeds.addAll(askingLine(box, line));
        return deeds;
    }

    private static List<Deed> askingLine(int box, int line) {
        List<Deed> deeds = new ArrayList<>();
        deeds.add(p -> p.wordsIn(box, line));
        deeds.add(p -> p.lineX(box, line));
        deeds.add(p -> p.lineY(box, line));
        return deeds;
    }

    /** The calls that ask for the whole, and need a layout. */
    private static List<Deed> askingWhole() {
        List<Deed> deeds = new ArrayList<>();
        deeds.add(p -> p.hit(5, 5));
        deeds.add(p -> p.pages(10));
        deeds.add(ColumnarPress::area);
        deeds.add(ColumnarPress::filled);
        deeds.add(ColumnarPress::meanLine);
        return deeds;
    }

    private static void adding() {
        for (int state = 0; state < 3; state++) {
            for (int b = 0; b < 24; b++) {
                int box = b;
                refusedIn(RefusedCalls::full, 24, state, "add to " + b, STATE, p -> p.add(box, 'b'));
            }
            for (char kind : "btfg".toCharArray()) {
                refusedIn(RefusedCalls::deep, 10, state, "add below level 7", UNSUPPORTED, p -> p.add(7, kind));
                refusedIn(RefusedCalls::deep, 10, state, "add to a text", UNSUPPORTED, p -> p.add(8, kind));
                refusedIn(RefusedCalls::deep, 10, state, "add to a text at level 7", UNSUPPORTED, p -> p.add(9, kind));
            }
        }
    }

    private static void words() {
        for (int box : new int[] {0, 1, 3, 5, 8, 11, 12, 14}) {
            refused("addWord to " + box, UNSUPPORTED, p -> p.addWord(box, 1));
            refused("addWord to " + box, UNSUPPORTED, p -> p.addWord(box, 60));
        }
        refused("addWord to a full text", STATE, p -> p.addWord(FULL_TEXT, 1));
        refused("addWord to a full text", STATE, p -> p.addWord(FULL_TEXT, 60));
    }

    private static void ofLayout() {
        List<Deed> deeds = askingWhole();
        for (int b = 0; b < BOXES; b++) deeds.addAll(asking(b));
        for (int i = 0; i < deeds.size(); i++) {
            refusedIn(RefusedCalls::rich, BOXES, 0, "call " + i + ", nothing was laid out", STATE, deeds.get(i));
            refusedIn(RefusedCalls::rich, BOXES, 2, "call " + i + ", something was changed", STATE, deeds.get(i));
        }
        for (int box : new int[] {0, 1, 3, 5, 8, 11, 12, 14}) {
            for (Deed deed : askingText(box, 0)) laid("box " + box + " is no text", UNSUPPORTED, deed);
        }
        // the text 2 has two lines, 13 one
        for (int line : new int[] {2, 3, -1, Integer.MIN_VALUE, Integer.MAX_VALUE, 256}) {
            for (Deed deed : askingLine(TEXT, line)) laid("line " + line, NO_ELEMENT, deed);
            laid("pageOf line " + line, NO_ELEMENT, p -> p.pageOf(10, TEXT, line));
        }
        same("lines", inState(RefusedCalls::rich, 1).lines(TEXT) + " " + inState(RefusedCalls::rich, 1).lines(13), "2 1");
        for (Deed deed : askingLine(13, 1)) laid("line 1 of 1", NO_ELEMENT, deed);
        for (int box : new int[] {0, 1, 3, 6, 7, 9, 10, 11, 12, 13, 14}) {
            laid("no unit " + box, NO_ELEMENT, p -> p.pageOf(10, box, 0));
        }
        laid("hit beside", NO_ELEMENT, p -> p.hit(-50, 0));
        laid("hit above", NO_ELEMENT, p -> p.hit(0, -50));
    }

    private static void laid(String what, Class<?> want, Deed deed) {
        refusedIn(RefusedCalls::rich, BOXES, 1, what, want, deed);
    }

    /** A root without area, and no text with lines. */
    private static ColumnarPress flat() {
        ColumnarPress p = new ColumnarPress();
        p.setSize(0, -1, 0);
        p.add(0, 't');
        return p;
    }

    private static void withoutArea() {
        for (Deed deed : new Deed[] {ColumnarPress::filled, ColumnarPress::meanLine}) {
            ColumnarPress p = flat();
            p.layOut(WIDTH);
            same("no area, no lines", answer(() -> deed.run(p)), ARITHMETIC);
            same("kept", p.layOut(WIDTH) + " " + p.contexts() + " " + p.heightOf(1) + " " + p.area(), "0 1 0 0");
        }
    }

    // ---- several conditions

    private static void orderOfSetters() {
        ColumnarPress p = rich();
        for (int box : FAR_BOXES) {
            fails("setSize", INDEX, () -> p.setSize(box, -2, -2));
            fails("setMargins", INDEX, () -> p.setMargins(box, 41, 41, 41, 41));
            fails("setPadding", INDEX, () -> p.setPadding(box, 21));
            fails("setFactors", INDEX, () -> p.setFactors(box, 10, 10));
            fails("setColumns", INDEX, () -> p.setColumns(box, 0));
            fails("setFloat", INDEX, () -> p.setFloat(box, 'x'));
            fails("setPlace", INDEX, () -> p.setPlace(box, 'x', 101, 101));
            fails("setDepth", INDEX, () -> p.setDepth(box, 6));
            fails("setBreak", INDEX, () -> p.setBreak(box, 'x'));
            fails("setAlignment", INDEX, () -> p.setAlignment(box, 'x'));
            fails("addWord", INDEX, () -> p.addWord(box, 0));
        }
        fails("too long for what is no text", ARGUMENT, () -> p.addWord(0, 61));
        fails("too short for a full text", ARGUMENT, () -> p.addWord(FULL_TEXT, 0));
    }

    private static void orderOfAdding() {
        ColumnarPress deep = deep();
        ColumnarPress full = full();
        for (int box : FAR_BOXES) {
            fails("no parent, no kind", INDEX, () -> deep.add(box, 'x'));
            fails("no parent, 24 boxes", INDEX, () -> full.add(box, 'b'));
            fails("no parent, no kind, 24 boxes", INDEX, () -> full.add(box, 'x'));
        }
        fails("no kind, inside a text", ARGUMENT, () -> deep.add(8, 'x'));
        fails("no kind, too deep", ARGUMENT, () -> deep.add(7, 'x'));
        fails("no kind, too deep, inside a text", ARGUMENT, () -> deep.add(9, 'x'));
        fails("no kind, 24 boxes", ARGUMENT, () -> full.add(0, 'x'));
        fails("no kind, 24 boxes, inside a text", ARGUMENT, () -> full.add(8, 'x'));
        fails("no kind, 24 boxes, too deep", ARGUMENT, () -> full.add(7, 'x'));
        fails("24 boxes, inside a text", STATE, () -> full.add(8, 't'));
        fails("24 boxes, too deep", STATE, () -> full.add(7, 't'));
        fails("24 boxes, too deep, inside a text", STATE, () -> full.add(9, 't'));
    }

    private static void orderOfLayout() {
        for (int state = 0; state < 3; state++) {
            ColumnarPress p = inState(RefusedCalls::rich, state);
            for (int box : FAR_BOXES) {
                for (Deed deed : asking(box)) fails("no box", INDEX, () -> deed.run(p));
                for (Deed deed : askingText(box, -1)) fails("no box, no line", INDEX, () -> deed.run(p));
            }
        }
        for (int state = 0; state < 3; state += 2) {
            ColumnarPress p = inState(RefusedCalls::rich, state);
            for (Deed deed : askingText(0, 0)) fails("not laid out, no text", STATE, () -> deed.run(p));
            for (Deed deed : askingText(0, -1)) fails("not laid out, no text, no line", STATE, () -> deed.run(p));
            for (Deed deed : askingText(TEXT, 99)) fails("not laid out, no line", STATE, () -> deed.run(p));
            fails("not laid out, no box there", STATE, () -> p.hit(-99, -99));
            ColumnarPress q = flat();
            if (state > 0) q.layOut(WIDTH);
            q.setPadding(1, 0);
            fails("not laid out, no area", STATE, q::filled);
            fails("not laid out, no lines", STATE, q::meanLine);
        }
        ColumnarPress p = inState(RefusedCalls::rich, 1);
        for (Deed deed : askingLine(0, -1)) fails("no text, no line", UNSUPPORTED, () -> deed.run(p));
    }

    private static void orderOfPages() {
        for (int state = 0; state < 3; state++) {
            ColumnarPress p = inState(RefusedCalls::rich, state);
            for (int height : outside(10, 400)) {
                fails("height, perhaps not laid out", ARGUMENT, () -> p.pages(height));
                fails("height, no box", ARGUMENT, () -> p.pageOf(height, 99, 0));
                fails("height, no unit", ARGUMENT, () -> p.pageOf(height, 0, 0));
                fails("height, no line", ARGUMENT, () -> p.pageOf(height, TEXT, -1));
            }
            for (int box : FAR_BOXES) fails("no box", INDEX, () -> p.pageOf(10, box, -1));
            Class<?> due = state == 1 ? NO_ELEMENT : STATE;
            fails("perhaps not laid out, no unit", due, () -> p.pageOf(10, 0, 0));
            fails("perhaps not laid out, no line", due, () -> p.pageOf(10, TEXT, 20));
        }
    }
}
