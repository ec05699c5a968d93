/**
 * The sentences of the document about the flow, floats, lines, rows, grids, boxes that are lifted out, and pages
 * that name an edge: at it, and by one unit on both sides of it.
 */
public final class EdgesOfLayout extends Checks {
    public static void main(String[] args) {
        widthInFlow();
        strut();
        strutOfEachBlock();
        strutWithoutHeight();
        clearAndPlace();
        endOfContents();
        negativeMargins();
        floatEnds();
        otherContexts();
        floatBegins();
        floatFits();
        floatsInANarrowBlock();
        leastLowerEnd();
        floatsWithoutHeight();
        aUnitInCommon();
        wordsFit();
        wordsGoDown();
        linesWithoutRoom();
        alignments();
        leastAndGreatest();
        asFits();
        rowsWithoutItems();
        rowsWithNothingFree();
        rowsWithoutInnerWidth();
        leftOverWhenGrowing();
        leftOverWhenShrinking();
        rowsBehindRows();
        frozenAtBounds();
        weights();
        heightsOfItems();
        gridColumns();
        gridRows();
        liftedWidths();
        liftedFrames();
        shifted();
        unitsOfPages();
        endOfThePage();
        forced();
        whole();
        secondLine();
        placesOnPages();
        end();
    }

    private static void widthInFlow() {
        part = "as wide as it was told, or else as the inner width of its parent less its margins, but at least twice its padding";
        for (char kind : "btfg".toCharArray()) {
            ColumnarPress p = new ColumnarPress();
            int b = p.add(0, kind);
            p.setMargins(b, 0, 0, 5, 6);
            p.setPadding(b, 4);
            int[] given = {0, 11, 18, 19, 20, 400};
            int[] due = {8, 8, 8, 8, 9, 389};
            for (int i = 0; i < given.length; i++) {
                p.layOut(given[i]);
                same("inside " + given[i], p.xOf(b) + " " + p.widthOf(b), "5 " + due[i]);
            }
            for (int told : new int[] {0, 7, 400}) {
                p.setSize(b, told, -1);
                p.layOut(20);
                same("told", p.xOf(b) + " " + p.widthOf(b), "5 " + told);
            }
        }
    }

    private static void strut() {
        part = "a strut, of a greatest and a least margin, both 0 at first";
        int[][] margins = {{5, 0, 5}, {-5, 0, -5}, {5, 5, 5}, {5, 6, 6}, {6, 5, 6}, {-5, -6, -6}, {-6, -5, -6}, {7, -3, 4},
            {-3, 7, 4}, {40, -40, 0}, {0, 0, 0}};
        for (int[] m : margins) {
            ColumnarPress p = new ColumnarPress();
            int a = box(p, 0, 'b', -1, 50);
            int b = box(p, 0, 'b', -1, 50);
            p.setMargins(a, 0, m[0], 0, 0);
            p.setMargins(b, m[1], 0, 0, 0);
            p.layOut(10);
            same(m[0] + " and " + m[1], p.yOf(b), 50 + m[2]);
            p.setMargins(a, 0, 0, 0, 0);
            p.setMargins(b, 0, 0, 0, 0);
            p.setMargins(a, m[0], 0, 0, 0);
            p.layOut(10);
            same("the first one", p.yOf(a) + " " + p.yOf(b), m[0] + " " + (50 + m[0]));
            p.setMargins(a, 0, 0, 0, 0);
            p.setMargins(b, 0, m[0], 0, 0);
            p.layOut(10);
            same("the last one", p.heightOf(0), 100 + m[0]);
        }
    }

    private static void strutOfEachBlock() {
        part = "The flow goes down from the upper padding, with a place and a strut, both 0 at first: in each block anew";
        for (int m : new int[] {-9, 9}) {
            ColumnarPress p = new ColumnarPress();
            int a = p.add(0, 'b');
            p.setMargins(box(p, a, 'b', -1, 20), 0, m, 0, 0);
            int b = p.add(0, 'b');
            int in = box(p, b, 'b', -1, 5);
            p.layOut(30);
            same("the margin of the block ahead stays in it", p.yOf(b) + " " + p.yOf(in) + " " + p.heightOf(b), (20 + m) + " " + (20 + m) + " 5");
            p.setMargins(b, m, 0, 0, 0);
            p.layOut(30);
            same("nor does its own margin come in", p.yOf(b) + " " + p.yOf(in), (20 + 2 * m) + " " + (20 + 2 * m));
        }
    }

    private static void strutWithoutHeight() {
        part = "If its height is 0, its lower margin comes to the strut, too, and the place stays";
        ColumnarPress p = new ColumnarPress();
        int a = box(p, 0, 'b', -1, 50);
        int z = box(p, 0, 'b', -1, 0);
        int y = text(p, 0);
        int b = box(p, 0, 'b', -1, 50);
        p.setMargins(a, 0, 3, 0, 0);
        p.setMargins(z, 8, -2, 0, 0);
        p.setMargins(y, -6, 9, 0, 0);
        p.setMargins(b, 1, 0, 0, 0);
        p.layOut(10);
        // 3; 8; 8 and -2; 8 and -6; 9 and -6
        same("tops", p.yOf(z) + " " + p.yOf(y) + " " + p.yOf(b), "58 52 53");
        part = "otherwise the place becomes its lower end, and the strut has its lower margin alone, beside 0 and 0";
        p.setSize(z, -1, 1);
        p.layOut(10);
        // 58 to 59; -2 and -6; 9 and -6
        same("tops", p.yOf(z) + " " + p.yOf(y) + " " + p.yOf(b), "58 53 62");
        p.setPadding(y, 1);
        p.layOut(10);
        // the text from 53 to 55
        same("tops", p.yOf(y) + " " + p.heightOf(y) + " " + p.yOf(b), "53 2 64");
        part = "its height is 0, as it was told, with much inside";
        text(p, z, 5, 5, 5);
        p.setSize(z, -1, 0);
        p.setSize(y, -1, 0);
        p.layOut(10);
        same("tops", p.yOf(z) + " " + p.yOf(y) + " " + p.yOf(b), "58 52 53");
    }

    private static void clearAndPlace() {
        part = "if it clears, its top is at least the lower end of the margins of all floats that were placed in the context";
        int[][] ends = {{9, 10}, {10, 10}, {11, 11}, {400, 400}};
        for (int[] e : ends) {
            for (int way = 0; way < 3; way++) {
                ColumnarPress p = new ColumnarPress();
                floating(p, 0, way == 1 ? 'r' : 'l', 5, e[0]);
                floating(p, 0, 'r', 5, 3);
                box(p, 0, 'b', -1, 7);
                int c = p.add(0, way == 0 ? 'b' : way == 1 ? 'f' : 'g');
                int d = box(p, 0, 'b', -1, 4);
                p.setClear(c, way == 0);
                p.setMargins(c, 3, 2, 0, 0);
                p.layOut(50);
                same("cleared", p.yOf(c), e[1]);
                same("the place stays, also if it cleared", p.yOf(d), 10);
                p.setSize(c, -1, 1);
                p.layOut(50);
                same("the place is its lower end", p.yOf(d), e[1] + 1 + 2);
            }
        }
        ColumnarPress p = new ColumnarPress();
        int c = p.add(0, 'b');
        p.setClear(c, true);
        p.setMargins(c, -4, 0, 0, 0);
        int f = floating(p, 0, 'l', 5, 50);
        p.layOut(20);
        same("no float was placed ahead", p.yOf(c) + " " + p.yOf(f), "-4 -4");
        p.setFloat(c, 'n');
        p.setPlace(f, 'a', 0, 0);
        p.layOut(20);
        same("no floats", p.yOf(c), -4);
        ColumnarPress q = new ColumnarPress();
        int around = q.add(0, 'b');
        q.setMargins(floating(q, around, 'l', 5, 10), 3, 5, 0, 0);
        int after = q.add(0, 'b');
        int in = q.add(after, 't');
        q.setClear(in, true);
        q.layOut(20);
        same("floats of other blocks, with their margins", q.yOf(in) + " " + q.yOf(after), "18 0");
        q.setFloat(after, 'r');
        q.layOut(20);
        same("but not of other contexts", q.yOf(in) + " " + q.yOf(after), "0 0");
    }

    private static void endOfContents() {
        part = "The contents end at the place plus the greatest plus the least margin, or at the upper padding, if this is lower down";
        int[] lower = {-40, -10, -9, -1, 0, 1, 40};
        int[] due = {0, 0, 1, 9, 10, 11, 50};
        for (int i = 0; i < lower.length; i++) {
            ColumnarPress p = new ColumnarPress();
            int b = p.add(0, 'b');
            p.setPadding(b, 3);
            p.setMargins(box(p, b, 'b', -1, 10), 0, lower[i], 0, 0);
            p.layOut(30);
            same("lower margin " + lower[i], p.heightOf(b), 6 + due[i]);
            p.setMargins(2, lower[i], 0, 0, 0);
            p.layOut(30);
            same("upper margin " + lower[i], p.heightOf(b), 6 + due[i]);
            p.setSize(2, -1, 0);
            p.setMargins(2, lower[i], lower[i], 0, 0);
            p.layOut(30);
            same("both, without height", p.heightOf(b), 6 + Math.max(0, lower[i]));
        }
    }

    private static void negativeMargins() {
        part = "Margins less than 0 at the top and the bottom count as 0 for floats, boxes that are lifted out, and children of rows and grids";
        for (int m : new int[] {-40, -1, 0, 1, 40}) {
            int up = Math.max(0, m);
            ColumnarPress p = new ColumnarPress();
            int f = floating(p, 0, 'l', 5, 10);
            int row = p.add(0, 'f');
            int a = box(p, row, 'b', 5, 10);
            int grid = p.add(0, 'g');
            int b = box(p, grid, 'b', 5, 10);
            int out = box(p, 0, 'b', 5, 10);
            p.setPlace(out, 'a', 0, 50);
            for (int box : new int[] {f, a, b, out}) p.setMargins(box, m, m, 0, 0);
            p.layOut(30);
            int high = 10 + 2 * up;
            spot(p, f, 0, up, 5, 10);
            same("the row clears", p.yOf(row) + " " + p.heightOf(row) + " " + p.yOf(a), high + " " + high + " " + (high + up));
            same("the grid", p.yOf(grid) + " " + p.heightOf(grid) + " " + p.yOf(b), 2 * high + " " + high + " " + (2 * high + up));
            same("lifted out", p.heightOf(out), 10);
            same("the root", p.heightOf(0), 3 * high);
        }
    }

    private static void floatEnds() {
        part = "a context of the kind 'b' or 't' is at least so high that the margins of its floats end ahead of its lower padding";
        int[] high = {0, 6, 7, 8, 400};
        int[] due = {20, 20, 20, 21, 413};
        for (int i = 0; i < high.length; i++) {
            ColumnarPress p = new ColumnarPress();
            p.setPadding(0, 5);
            int f = floating(p, 0, 'l', 3, high[i]);
            p.setMargins(f, 1, 2, 0, 0);
            text(p, 0, 9);
            p.layOut(60);
            same("the root with a float of " + high[i], p.heightOf(0), due[i]);
            p.setSize(0, -1, 2);
            p.layOut(60);
            same("a told height counts", p.heightOf(0), 2);
        }
        for (int way = 0; way < 5; way++) {
            ColumnarPress p = new ColumnarPress();
            int around = way < 3 ? 0 : p.add(0, way == 3 ? 'f' : 'g');
            int b = p.add(around, 'b');
            p.setPadding(b, 2);
            int in = p.add(b, 'b');
            floating(p, in, 'r', 3, 30);
            if (way == 1) p.setFloat(b, 'l');
            if (way == 2) p.setPlace(b, 'a', 0, 0);
            p.layOut(60);
            same("block, float, lifted out, items", p.heightOf(b), way == 0 ? 4 : 34);
            same("a block inside is not higher", p.heightOf(in), 0);
            same("the root", p.heightOf(0), way == 0 ? 32 : way == 2 ? 0 : 34);
        }
    }

    private static void otherContexts() {
        part = "Floats belong to the context of their parent, and push lines and floats of this context alone";
        ColumnarPress p = new ColumnarPress();
        floating(p, 0, 'l', 10, 100);
        int b = p.add(0, 'b');
        int deep = text(p, p.add(b, 'b'), 5);
        int other = p.add(0, 'b');
        int in = text(p, other, 5);
        int f = floating(p, other, 'l', 4, 4);
        p.layOut(60);
        same("this context", p.lineX(deep, 0) + " " + p.lineX(in, 0) + " " + p.xOf(f), "10 10 10");
        p.setPlace(other, 'a', 0, 0);
        p.layOut(60);
        same("lifted out", p.lineX(deep, 0) + " " + p.lineX(in, 0) + " " + p.xOf(f), "10 0 0");
        p.setPlace(other, 's', 0, 0);
        p.setFloat(other, 'l');
        p.layOut(60);
        same("a float", p.lineX(in, 0) + " " + p.xOf(f), "0 10");
        same("it was pushed itself", p.xOf(other), 10);
        ColumnarPress q = new ColumnarPress();
        int row = q.add(0, 'f');
        int a = box(q, row, 'b', 30, -1);
        floating(q, a, 'l', 10, 100);
        int own = text(q, a, 5);
        int next = text(q, row, 5);
        int below = text(q, 0, 5);
        q.setMargins(below, -40, 0, 0, 0);
        q.layOut(60);
        same("an item", q.lineX(own, 0) + " " + q.lineX(next, 0) + " " + q.lineX(below, 0), "10 0 0");
    }

    private static void floatBegins() {
        part = "its upper end is at least the place plus the greatest plus the least margin of then";
        ColumnarPress p = new ColumnarPress();
        int a = box(p, 0, 'b', -1, 20);
        p.setMargins(a, 0, 9, 0, 0);
        int f = floating(p, 0, 'l', 5, 5);
        int b = box(p, 0, 'b', -1, 10);
        p.setMargins(b, 15, 0, 0, 0);
        p.layOut(30);
        same("the margin of the next one is not yet in the strut", p.yOf(f) + " " + p.yOf(b), "29 35");
        p.setMargins(a, 0, -9, 0, 0);
        p.layOut(30);
        same("less than 0", p.yOf(f) + " " + p.yOf(b), "11 26");
        p.setMargins(f, 40, 0, 0, 0);
        p.layOut(30);
        same("its own margin does not collapse", p.yOf(f) + " " + p.yOf(b), "51 26");
        part = "and at least the upper end of the margins of the float that was placed in the context before";
        for (int up : new int[] {-11, -10, -9}) {
            ColumnarPress q = new ColumnarPress();
            int in = q.add(0, 'b');
            box(q, in, 'b', -1, 10);
            int one = floating(q, in, 'r', 5, 0);
            q.setMargins(one, 8, 0, 0, 0);
            int z = q.add(0, 'b');
            q.setMargins(z, up, 0, 0, 0);
            int two = floating(q, 0, 'l', 5, 5);
            q.layOut(30);
            same("the one before", q.yOf(one), 18);
            same("up by " + up, q.yOf(two), Math.max(10, 10 + up));
        }
    }

    private static void floatFits() {
        part = "If its width with margins is not greater than what is between, or no float lies in this height, it is placed there";
        int[] wide = {0, 19, 20, 21, 60};
        for (int w : wide) {
            int top = w <= 20 ? 0 : w == 60 ? 15 : 12;
            ColumnarPress p = new ColumnarPress();
            p.setMargins(floating(p, 0, 'l', 20, 12), 0, 0, 3, 4);
            p.setMargins(floating(p, 0, 'r', 10, 15), 0, 0, 1, 2);
            int l = floating(p, 0, 'l', w, 5);
            // 27 at the left, 13 at the right, and 30 between, of which 10 are margins
            p.setMargins(l, 0, 0, 4, 6);
            p.layOut(70);
            spot(p, l, w <= 20 ? 27 + 4 : 4, top, w, 5);
            p.setFloat(l, 'r');
            p.layOut(70);
            // beside the right one alone, the right edge is still at 57
            spot(p, l, (w == 60 ? 70 : 57) - 6 - w, top, w, 5);
        }
        ColumnarPress q = new ColumnarPress();
        int l = floating(q, 0, 'l', 50, 5);
        int r = floating(q, 0, 'r', 50, 5);
        q.layOut(40);
        same("wider than its parent", q.xOf(l) + " " + q.yOf(l), "0 0");
        same("a right one ends at the right", q.xOf(r) + " " + q.yOf(r), "-10 5");
        q.layOut(100);
        same("just both", q.xOf(r) + " " + q.yOf(r), "50 0");
        q.layOut(99);
        same("not both", q.xOf(r) + " " + q.yOf(r), "49 5");
        q.layOut(0);
        same("no room at all", q.xOf(l) + " " + q.yOf(l) + " " + q.xOf(r) + " " + q.yOf(r), "0 0 -50 5");
    }

    private static void floatsInANarrowBlock() {
        part = "the left edge is the inner left edge of its parent, or the rightmost right end, if this is further right";
        for (int wide : new int[] {14, 15, 16}) {
            ColumnarPress p = new ColumnarPress();
            floating(p, 0, 'l', wide, 30);
            floating(p, 0, 'r', wide, 30);
            int b = p.add(0, 'b');
            p.setMargins(b, 0, 0, 12, 12);
            p.setPadding(b, 3);
            int l = floating(p, b, 'l', 5, 5);
            int r = floating(p, b, 'r', 5, 5);
            int t = text(p, b, 5);
            p.layOut(100);
            int edge = Math.max(15, wide);
            same("left", p.xOf(l), edge);
            same("right", p.xOf(r), 100 - edge - 5);
            same("the line", p.xOf(t) + p.lineX(t, 0), edge + 5);
        }
        ColumnarPress p = new ColumnarPress();
        floating(p, 0, 'l', 20, 30);
        floating(p, 0, 'l', 5, 10);
        int t = text(p, 0, 5);
        p.setMargins(floating(p, 0, 'r', 20, 30), 0, 0, 0, 2);
        floating(p, 0, 'r', 5, 10);
        p.setAlignment(t, 'r');
        int u = text(p, 0, 5);
        p.setAlignment(u, 'r');
        p.setMargins(u, -10, 0, 0, 0);
        p.layOut(100);
        same("the rightmost right end", p.xOf(2) + " " + p.lineX(t, 0), "20 95");
        same("the leftmost left end", p.lineX(u, 0), 95);
        // the right floats begin behind t, where v begins, too
        int v = text(p, 0, 5, 5);
        p.setAlignment(v, 'r');
        p.layOut(100);
        same("beside both right ones", p.yOf(v) + " " + p.lineX(v, 0), "10 " + (100 - 22 - 5 - 12));
    }

    private static void leastLowerEnd() {
        part = "Otherwise its upper end goes down to the least lower end of the margins of floats that lie in this height";
        ColumnarPress p = new ColumnarPress();
        int a = floating(p, 0, 'l', 20, 30);
        int b = floating(p, 0, 'l', 20, 9);
        int c = floating(p, 0, 'r', 20, 19);
        p.setMargins(b, 0, 1, 0, 0);
        p.setMargins(c, 1, 0, 0, 0);
        int f = floating(p, 0, 'l', 0, 1);
        int[] wide = {40, 41, 60, 61, 80, 81, 100};
        int[] due = {0, 10, 10, 20, 20, 30, 30};
        int[] left = {40, 20, 20, 20, 20, 0, 0};
        for (int i = 0; i < wide.length; i++) {
            p.setSize(f, wide[i], 1);
            p.layOut(100);
            same("with " + wide[i], p.xOf(f) + " " + p.yOf(f), left[i] + " " + due[i]);
        }
        same("the others", p.xOf(a) + " " + p.xOf(b) + " " + p.xOf(c), "0 20 80");
        int t = text(p, 0, 39);
        p.setSize(f, 40, 1);
        p.layOut(100);
        same("a line below one that is 1 high", p.lineX(t, 0) + " " + p.lineY(t, 0), "40 1");
        p.setSize(b, 22, 9);
        p.setSize(f, 1, 1);
        p.layOut(100);
        same("a line below the next one", p.lineX(t, 0) + " " + p.lineY(t, 0), "20 10");
        p.setSize(b, 20, 9);
        p.layOut(100);
        same("a line beside all of them", p.lineX(t, 0) + " " + p.lineY(t, 0), "41 0");
        p.addWord(t, 60);
        p.addWord(t, 60);
        p.layOut(100);
        rows(p, t, "41 0 1, 20 10 1, 20 20 1");
    }

    private static void floatsWithoutHeight() {
        part = "as high as it is with its margins, but at least 1; the lower end of the margins, taken at least 1 high";
        ColumnarPress p = new ColumnarPress();
        int a = floating(p, 0, 'l', 20, 0);
        int b = floating(p, 0, 'l', 80, 0);
        int c = floating(p, 0, 'l', 81, 0);
        int d = floating(p, 0, 'l', 20, 0);
        p.layOut(100);
        same("no room beside", p.xOf(a) + " " + p.yOf(a) + " " + p.xOf(b) + " " + p.yOf(b), "0 0 20 0");
        same("one unit lower", p.xOf(c) + " " + p.yOf(c), "0 1");
        same("one unit lower still", p.xOf(d) + " " + p.yOf(d), "0 2");
        same("the root ends where they end", p.heightOf(0), 2);
        int t = text(p, 0, 19, 19);
        p.layOut(100);
        rows(p, t, "81 1 1, 0 11 1");
        p.setSize(c, 82, 0);
        p.layOut(100);
        rows(p, t, "20 2 2");
        p.setSize(d, 82, 0);
        p.layOut(100);
        rows(p, t, "0 3 2");
        p.setSize(d, 20, 0);
        p.setSize(c, 0, 0);
        p.setSize(b, 10, 0);
        p.layOut(100);
        // 20, 10, none and 20 in the height 0
        same("a line beside", p.lineX(t, 0) + " " + p.lineY(t, 0) + " " + p.wordsIn(t, 0), "50 0 2");
        p.setClear(t, true);
        p.layOut(100);
        same("clearing takes them as high as they are", p.yOf(t) + " " + p.lineX(t, 0), "0 50");
        p.setMargins(a, 1, 0, 0, 0);
        p.layOut(100);
        same("with a margin, it is 1 high", p.yOf(t) + " " + p.lineX(t, 0), "1 0");
        p.setMargins(a, 0, 1, 0, 0);
        p.layOut(100);
        same("or a lower one", p.yOf(t) + " " + p.lineX(t, 0), "1 0");
    }

    private static void aUnitInCommon() {
        part = "A float lies in a height if its margins and the height have a unit in common";
        for (int gap : new int[] {9, 10, 11}) {
            ColumnarPress p = new ColumnarPress();
            box(p, 0, 'b', -1, 40);
            floating(p, 0, 'l', 20, 20);
            int t = text(p, 0, 10);
            p.setMargins(t, -40, 0, 0, 0);
            p.layOut(50);
            same("far above", p.yOf(t) + " " + p.lineX(t, 0), "0 0");
            p.setMargins(t, -gap, 0, 0, 0);
            p.layOut(50);
            same("a line that begins " + gap + " above", p.lineX(t, 0), gap < 10 ? 20 : 0);
        }
        for (int gap : new int[] {19, 20, 21}) {
            ColumnarPress p = new ColumnarPress();
            floating(p, 0, 'l', 20, 20);
            box(p, 0, 'b', -1, gap);
            int t = text(p, 0, 10);
            int r = floating(p, 0, 'l', 9, 9);
            p.layOut(50);
            same("a line that begins " + gap + " below the upper end", p.lineX(t, 0), gap < 20 ? 20 : 0);
            p.setPlace(t, 'a', 0, 0);
            p.layOut(50);
            same("a float that does", p.xOf(r) + " " + p.yOf(r), (gap < 20 ? 20 : 0) + " " + gap);
        }
    }

    private static void wordsFit() {
        part = "the line takes the next word, and further ones, with 2 between two words, as long as they fit";
        int[] widths = {0, 9, 10, 21, 22, 23, 32, 33, 34, 400};
        String[] due = {"0 0 1, 0 10 1, 0 20 1", "0 0 1, 0 10 1, 0 20 1", "0 0 1, 0 10 1, 0 20 1", "0 0 1, 0 10 2", "0 0 2, 0 10 1",
            "0 0 2, 0 10 1", "0 0 2, 0 10 1", "0 0 2, 0 10 1", "0 0 3", "0 0 3"};
        ColumnarPress p = new ColumnarPress();
        int t = text(p, 0, 12, 8, 10);
        for (int i = 0; i < widths.length; i++) {
            p.layOut(widths[i]);
            rows(p, t, due[i]);
            same("height", p.heightOf(t), p.lines(t) * 10);
        }
        ColumnarPress q = new ColumnarPress();
        int full = q.add(0, 't');
        for (int i = 0; i < 20; i++) q.addWord(full, 1);
        q.layOut(58);
        same("20 words in a line", q.lines(full) + " " + q.wordsIn(full, 0), "1 20");
        q.layOut(57);
        same("19 and one", q.lines(full) + " " + q.wordsIn(full, 0) + " " + q.wordsIn(full, 1), "2 19 1");
        q.layOut(3);
        same("one in each", q.lines(full) + " " + q.wordsIn(full, 19) + " " + q.lineY(full, 19), "20 1 190");
        q.layOut(4);
        same("two in each", q.lines(full) + " " + q.wordsIn(full, 9) + " " + q.lineY(full, 9), "10 2 90");
    }

    private static void wordsGoDown() {
        part = "If the next word is longer than what is between, and a float lies in this height, the line goes down";
        int[] words = {39, 40, 41, 60};
        for (int word : words) {
            ColumnarPress p = new ColumnarPress();
            floating(p, 0, 'l', 20, 15);
            int t = text(p, 0, word, 5);
            p.layOut(60);
            rows(p, t, word < 41 ? "20 0 1, 20 10 1" : word == 41 ? "0 15 2" : "0 15 1, 0 25 1");
            same("the text is as high as down to its last line", p.heightOf(t), word < 41 ? 20 : word == 41 ? 25 : 35);
        }
        ColumnarPress p = new ColumnarPress();
        floating(p, 0, 'l', 20, 15);
        int t = text(p, 0, 60, 5);
        p.layOut(30);
        rows(p, t, "0 15 1, 0 25 1");
        p.setPlace(1, 'a', 0, 0);
        p.layOut(30);
        rows(p, t, "0 0 1, 0 10 1");
    }

    private static void linesWithoutRoom() {
        part = "the left edge may be further right than the right one";
        ColumnarPress p = new ColumnarPress();
        floating(p, 0, 'l', 30, 7);
        floating(p, 0, 'r', 30, 7);
        int t = text(p, 0, 1, 1);
        p.setAlignment(t, 'r');
        p.layOut(50);
        // the right one is below the left one, but both lie in the first height, where 30 and 20 are the edges
        rows(p, t, "16 7 2");
        same("the right one", p.xOf(2) + " " + p.yOf(2), "20 7");
        p.setSize(1, 51, 7);
        p.layOut(50);
        // no unit is beside the left one; 20 are beside the right one, which is from 7 to 14
        rows(p, t, "16 7 2");
        p.setSize(2, 50, 7);
        p.layOut(50);
        rows(p, t, "46 14 2");
    }

    private static void alignments() {
        part = "what is left over in the line, if it is more than 0, stands behind the words, half of it, rounded down, or all ahead of them";
        int[] widths = {0, 9, 10, 11, 12, 13, 14};
        int[] half = {0, 0, 0, 0, 1, 1, 2};
        for (int i = 0; i < widths.length; i++) {
            ColumnarPress p = new ColumnarPress();
            int t = text(p, 0, 10);
            p.setPadding(t, 3);
            int all = Math.max(0, widths[i] - 10);
            p.layOut(widths[i] + 6);
            same("left", p.lineX(t, 0), 3);
            p.setAlignment(t, 'c');
            p.layOut(widths[i] + 6);
            same("in the middle", p.lineX(t, 0), 3 + half[i]);
            p.setAlignment(t, 'r');
            p.layOut(widths[i] + 6);
            same("right", p.lineX(t, 0), 3 + all);
        }
    }

    private static void leastAndGreatest() {
        part = "Least and greatest widths: of a text, its longest word, and all words with 2 between two";
        ColumnarPress p = new ColumnarPress();
        int t = p.add(0, 't');
        same("no words", p.leastWidth(t) + " " + p.greatestWidth(t), "0 0");
        p.addWord(t, 9);
        same("one word", p.leastWidth(t) + " " + p.greatestWidth(t), "9 9");
        p.addWord(t, 8);
        same("two words", p.leastWidth(t) + " " + p.greatestWidth(t), "9 19");
        p.setPadding(t, 20);
        same("with twice the padding", p.leastWidth(t) + " " + p.greatestWidth(t), "49 59");
        p.setSize(t, 0, -1);
        same("told 0", p.leastWidth(t) + " " + p.greatestWidth(t), "0 0");
        part = "of a block, the greatest one; of a row, the sum; of a grid, the sum over its columns of the greatest ones";
        for (char kind : "bfg".toCharArray()) {
            ColumnarPress q = new ColumnarPress();
            int b = q.add(0, kind);
            q.setPadding(b, 5);
            q.setColumns(b, 2);
            same("without children", q.leastWidth(b) + " " + q.greatestWidth(b), "10 10");
            int out = text(q, b, 60, 60);
            q.setPlace(out, 'a', 0, 0);
            same("with one that is lifted out", q.leastWidth(b) + " " + q.greatestWidth(b), "10 10");
            int one = text(q, b, 7, 3);
            q.setMargins(one, 0, 0, 4, 6);
            same("one", q.leastWidth(b) + " " + q.greatestWidth(b), "27 32");
            text(q, b, 8, 20);
            same("two", q.leastWidth(b) + " " + q.greatestWidth(b), kind == 'b' ? "30 40" : "47 62");
            text(q, b, 18, 9);
            // in a grid, it is in the first column again
            same("three", q.leastWidth(b) + " " + q.greatestWidth(b), kind == 'b' ? "30 40" : kind == 'f' ? "65 91" : "48 69");
            q.setFloat(one, 'l');
            same("a float counts", q.greatestWidth(b), kind == 'b' ? 40 : kind == 'f' ? 91 : 69);
            q.setMargins(one, 0, 0, 40, 40);
            same("with its margins", q.leastWidth(b) + " " + q.greatestWidth(b), kind == 'b' ? "97 102" : kind == 'f' ? "135 161" : "117 132");
            q.setPlace(one, 'r', -100, 0);
            same("shifts change nothing", q.greatestWidth(b), kind == 'b' ? 102 : kind == 'f' ? 161 : 132);
        }
    }

    private static void asFits() {
        part = "As fits is the greatest width, but at most the given one, and then at least the least width";
        int[] given = {0, 5, 16, 17, 18, 49, 50, 51, 400};
        int[] due = {12, 12, 12, 12, 13, 44, 45, 45, 45};
        for (int i = 0; i < given.length; i++) {
            ColumnarPress p = new ColumnarPress();
            int f = text(p, 0, 10, 10, 10, 4, 1);
            p.setFloat(f, 'r');
            p.setPadding(f, 1);
            p.setMargins(f, 0, 0, 2, 3);
            same("least and greatest", p.leastWidth(f) + " " + p.greatestWidth(f), "12 45");
            p.layOut(given[i]);
            same("a float, given " + (given[i] - 5), p.widthOf(f), due[i]);
            p.setPlace(f, 'a', 5, 0);
            p.layOut(given[i]);
            same("lifted out, given " + (given[i] - 5), p.widthOf(f), due[i]);
            p.setSize(f, 3, -1);
            p.layOut(given[i]);
            same("told", p.widthOf(f), 3);
        }
    }

    private static void rowsWithoutItems() {
        part = "The items of a row are its children that are not lifted out";
        for (char kind : "fg".toCharArray()) {
            ColumnarPress p = new ColumnarPress();
            int row = p.add(0, kind);
            p.setPadding(row, 4);
            int a = box(p, row, 'b', 10, 10);
            p.setPlace(a, 'a', 0, 0);
            p.layOut(50);
            spot(p, row, 0, 0, 50, 8);
            spot(p, a, 0, 0, 10, 10);
            int b = box(p, row, 'b', 10, 20);
            p.layOut(50);
            spot(p, b, 4, 4, 10, 20);
            spot(p, row, 0, 0, 50, 28);
            p.setPlace(a, 's', 0, 0);
            p.layOut(50);
            spot(p, a, 4, 4, 10, 10);
            same("the second item", p.xOf(b) + " " + p.yOf(b), kind == 'f' ? "14 4" : "4 14");
        }
    }

    private static void rowsWithNothingFree() {
        part = "What is free: more than 0, 0, less than 0";
        int[] widths = {62, 61, 60, 59, 58};
        String[] due = {"21 28 13", "21 28 12", "20 28 12", "20 27 12", "20 26 12"};
        for (int i = 0; i < widths.length; i++) {
            ColumnarPress p = new ColumnarPress();
            int row = p.add(0, 'f');
            p.setPadding(row, 3);
            int a = text(p, row, 9, 9);
            int b = text(p, row, 13, 13);
            int c = text(p, row, 5, 5);
            p.setMargins(b, 0, 0, 1, 2);
            p.setFactors(a, 1, 0);
            p.setFactors(b, 0, 1);
            p.setFactors(c, 1, 0);
            // bases 20, 28 and 12, margins 3, padding 6
            p.layOut(widths[i] + 9);
            same("free " + (widths[i] - 60), p.widthOf(a) + " " + p.widthOf(b) + " " + p.widthOf(c), due[i]);
            same("they begin at the padding and their margins", p.xOf(a) + " " + p.xOf(b), "3 " + (3 + p.widthOf(a) + 1));
        }
    }

    private static void rowsWithoutInnerWidth() {
        part = "What is free is the inner width, which is at least 0, less all bases";
        for (int told : new int[] {0, 1, 19, 20}) {
            ColumnarPress p = new ColumnarPress();
            int row = box(p, 0, 'f', told, -1);
            p.setPadding(row, 10);
            int a = text(p, row, 5, 30);
            int b = text(p, row, 5, 2);
            p.setFactors(b, 0, 9);
            int grid = box(p, 0, 'g', told, -1);
            p.setColumns(grid, 2);
            p.setPadding(grid, 10);
            int c = text(p, grid, 3, 4);
            int d = p.add(grid, 'b');
            p.layOut(100);
            spot(p, row, 0, 0, told, 40);
            same("the row's items at their bounds", p.widthOf(a) + " " + p.xOf(b) + " " + p.widthOf(b), "30 40 5");
            same("the grid's columns at their bases", p.widthOf(c) + " " + p.xOf(d) + " " + p.widthOf(d), "4 14 0");
        }
    }

    private static void leftOverWhenGrowing() {
        part = "grows by what is free times its factor divided by the sum, rounded down; units that are left over go, one each, to the first items with a factor more than 0";
        String[] due = {"10 10 10 10", "10 11 10 10", "10 11 10 11", "10 11 10 12", "10 12 10 12", "10 12 10 13", "10 12 10 14"};
        for (int free = 0; free < due.length; free++) {
            ColumnarPress p = new ColumnarPress();
            int row = p.add(0, 'f');
            for (int i = 0; i < 4; i++) text(p, row, 10);
            p.setFactors(3, 1, 1);
            p.setFactors(5, 2, 1);
            p.layOut(40 + free);
            // thirds: one for the second item, two for the last one
            same("free " + free, p.widthOf(2) + " " + p.widthOf(3) + " " + p.widthOf(4) + " " + p.widthOf(5), due[free]);
            for (int i = 2; i < 6; i++) p.setFactors(i, 0, 9);
            p.layOut(40 + free);
            same("no factors", p.widthOf(2) + " " + p.widthOf(5), "10 10");
        }
    }

    private static void leftOverWhenShrinking() {
        part = "units that are left over are lost, one each, by the first ones that have a weight more than 0 and are still greater than their bound";
        String[] due = {"20 20 20 20", "20 19 20 20", "20 19 20 19", "20 19 20 18", "20 18 20 18", "20 18 20 17", "20 18 20 16"};
        for (int lacking = 0; lacking < due.length; lacking++) {
            ColumnarPress p = new ColumnarPress();
            int row = p.add(0, 'f');
            for (int i = 0; i < 4; i++) text(p, row, 9, 9);
            for (int i = 0; i < 4; i++) p.setFactors(2 + i, 0, i == 1 ? 1 : i == 3 ? 2 : 0);
            p.layOut(80 - lacking);
            same("lacking " + lacking, p.widthOf(2) + " " + p.widthOf(3) + " " + p.widthOf(4) + " " + p.widthOf(5), due[lacking]);
        }
        part = "divided by the sum of weights, rounded down";
        ColumnarPress near = new ColumnarPress();
        int r = near.add(0, 'f');
        int great = text(near, r, 2, 2);
        for (int i = 0; i < 17; i++) near.addWord(great, 1);
        int small = text(near, r, 1, 1, 1);
        same("bases", near.greatestWidth(great) + " " + near.greatestWidth(small), "57 7");
        near.layOut(55);
        // 9 times 7 by 64 is not yet 1, so that the unit left over is lost by the first one
        same("nearly 1", near.widthOf(great) + " " + near.widthOf(small), "48 7");
        near.layOut(54);
        same("just more than 1", near.widthOf(great) + " " + near.widthOf(small), "48 6");
        part = "one each, by the first ones that are still greater than their bound";
        ColumnarPress p = new ColumnarPress();
        int row = p.add(0, 'f');
        int told = box(p, row, 'b', 20, 1);
        int one = text(p, row, 9, 9);
        int two = text(p, row, 9, 9);
        p.layOut(59);
        same("a told one is at its bound", p.widthOf(told) + " " + p.widthOf(one) + " " + p.widthOf(two), "20 19 20");
        p.layOut(58);
        same("again", p.widthOf(told) + " " + p.widthOf(one) + " " + p.widthOf(two), "20 19 19");
    }

    private static void rowsBehindRows() {
        part = "The items of a row are its children, and not those of a row ahead";
        ColumnarPress p = new ColumnarPress();
        int ahead = box(p, 0, 'f', 400, -1);
        for (int i = 0; i < 3; i++) p.setFactors(text(p, ahead, 18, 1), 1, 1);
        int grows = box(p, 0, 'f', 31, -1);
        int one = text(p, grows, 9, 9);
        p.setFactors(one, 1, 0);
        int shrinks = box(p, 0, 'f', 29, -1);
        int two = text(p, shrinks, 9, 9);
        int three = text(p, shrinks, 9, 9);
        p.layOut(0);
        same("all that is free", p.widthOf(one), 31);
        same("all that is lacking", p.widthOf(two) + " " + p.widthOf(three), "14 15");
    }

    private static void frozenAtBounds() {
        part = "those that would be less than that bound are frozen; if there were some, another round follows";
        // bases 20 and 40, bounds 14 and 9: a third of what is lacking for the first
        int[] lacking = {17, 18, 19, 20, 36, 37, 38, 100};
        String[] due = {"14 29", "14 28", "14 27", "14 26", "14 10", "14 9", "14 9", "14 9"};
        for (int i = 0; i < lacking.length; i++) {
            ColumnarPress p = new ColumnarPress();
            int row = p.add(0, 'f');
            int a = text(p, row, 14, 4);
            int b = text(p, row, 9, 9, 9, 7);
            same("bases", p.greatestWidth(a) + " " + p.greatestWidth(b), "20 40");
            p.layOut(Math.max(0, 60 - lacking[i]));
            same("lacking " + lacking[i], p.widthOf(a) + " " + p.widthOf(b), due[i]);
        }
        part = "two are frozen in one round";
        ColumnarPress both = new ColumnarPress();
        int r = both.add(0, 'f');
        text(both, r, 35, 3);
        text(both, r, 9, 9, 9, 7);
        text(both, r, 34, 4);
        both.layOut(90);
        // 10 each, of which the first can lose 5 and the last 6, so 19 for the other
        same("the other one loses the rest", both.widthOf(2) + " " + both.widthOf(3) + " " + both.widthOf(4), "35 21 34");
        part = "another round freezes more";
        ColumnarPress p = new ColumnarPress();
        int row = p.add(0, 'f');
        int a = text(p, row, 28, 10);
        int b = text(p, row, 25, 13);
        int c = text(p, row, 19, 19);
        // bases 40 each, bounds 28, 25 and 19
        // 39 are lacking: 13 each, which is too much for the first, so 27 are for two: 13 each, and one more
        // 45: 15 each, which is too much for the first; then 16 each, for the second; 18 for the third
        p.layOut(81);
        same("one", p.widthOf(a) + " " + p.widthOf(b) + " " + p.widthOf(c), "28 26 27");
        p.layOut(75);
        same("two rounds", p.widthOf(a) + " " + p.widthOf(b) + " " + p.widthOf(c), "28 25 22");
        p.layOut(72);
        same("just all bounds", p.widthOf(a) + " " + p.widthOf(b) + " " + p.widthOf(c), "28 25 19");
        p.layOut(71);
        same("less than all bounds", p.widthOf(a) + " " + p.widthOf(b) + " " + p.widthOf(c), "28 25 19");
    }

    private static void weights() {
        part = "If the sum of the weights of items that are not frozen is 0, no more is lost, and frozen ones stay at their bounds";
        ColumnarPress p = new ColumnarPress();
        int row = p.add(0, 'f');
        int a = text(p, row, 14, 4);
        int b = text(p, row, 9, 9);
        p.setFactors(b, 0, 0);
        p.layOut(10);
        same("one has no weight", p.widthOf(a) + " " + p.widthOf(b), "14 20");
        p.setFactors(a, 0, 0);
        p.layOut(10);
        same("none has a weight", p.widthOf(a) + " " + p.widthOf(b), "20 20");
        p.setSize(a, 0, -1);
        p.setFactors(a, 9, 9);
        p.layOut(10);
        same("a basis of 0 has no weight", p.widthOf(a) + " " + p.widthOf(b), "0 20");
        part = "weights are factor to shrink times basis";
        ColumnarPress q = new ColumnarPress();
        int r = q.add(0, 'f');
        int c = text(q, r, 4, 4);
        int d = text(q, r, 9, 9);
        q.setFactors(c, 0, 2);
        q.layOut(24);
        // 20 and 20 for 6
        same("2 times 10 and 1 times 20", q.widthOf(c) + " " + q.widthOf(d), "7 17");
        q.setFactors(d, 0, 2);
        q.layOut(24);
        same("2 times 10 and 2 times 20", q.widthOf(c) + " " + q.widthOf(d), "8 16");
    }

    private static void heightsOfItems() {
        part = "an item with an open height is then as high as this less its margins, if this is more than it is";
        for (char kind : "fg".toCharArray()) {
            for (int high : new int[] {0, 14, 15, 16, 400}) {
                ColumnarPress p = new ColumnarPress();
                int row = p.add(0, kind);
                p.setColumns(row, 4);
                int a = text(p, row, 5);
                p.setMargins(a, 2, 3, 0, 0);
                int b = box(p, row, 'b', 5, high);
                int none = p.add(row, 'b');
                int told = box(p, row, 'b', 5, 0);
                p.setMargins(none, 40, -40, 0, 0);
                p.layOut(60);
                int most = Math.max(40, high);
                same("the row", p.heightOf(row), most);
                same("the text", p.heightOf(a), most - 5);
                same("with margins as high as the row, or less", p.heightOf(none) + " " + p.yOf(none), (most - 40) + " 40");
                same("told heights count", p.heightOf(told) + " " + p.heightOf(b), "0 " + high);
                p.setPlace(none, 'a', 0, 0);
                p.layOut(60);
                same("the text alone is 15", p.heightOf(a) + " " + p.heightOf(row), Math.max(10, high - 5) + " " + Math.max(15, high));
            }
        }
        part = "an open height, whether the width is told or not";
        for (char kind : "fg".toCharArray()) {
            ColumnarPress p = new ColumnarPress();
            int row = p.add(0, kind);
            p.setColumns(row, 3);
            box(p, row, 'b', 10, 30);
            int wide = box(p, row, 'b', 10, -1);
            int high = box(p, row, 'b', -1, 7);
            p.setFactors(high, 1, 0);
            p.layOut(kind == 'f' ? 60 : 20);
            same("a told width alone", p.widthOf(wide) + " " + p.heightOf(wide), "10 30");
            same("a told height alone", p.widthOf(high) + " " + p.heightOf(high), (kind == 'f' ? 40 : 0) + " 7");
            p.layOut(80);
            same("a told width in a wider column", p.widthOf(wide) + " " + p.heightOf(wide), "10 30");
            same("an open one", p.widthOf(high) + " " + p.heightOf(high), (kind == 'f' ? 60 : 20) + " 7");
        }
        part = "what is inside is not laid out anew for that";
        ColumnarPress p = new ColumnarPress();
        int row = p.add(0, 'f');
        int a = p.add(row, 'f');
        int in = text(p, a, 5);
        box(p, row, 'b', 5, 90);
        p.layOut(60);
        same("contexts", p.contexts(), 5);
        same("the item is higher, its own item is not", p.heightOf(a) + " " + p.heightOf(in), "90 10");
    }

    private static void gridColumns() {
        part = "If the inner width is more than all bases, what is free is given to the columns in equal parts, rounded down, and units that are left over, one each, to the first ones";
        int[] free = {-40, -1, 0, 1, 2, 3, 4, 5, 8, 11};
        String[] due = {"30 20 5", "30 20 5", "30 20 5", "31 20 5", "31 21 5", "31 21 6", "31 21 6", "32 21 6", "32 22 7", "33 23 8"};
        for (int i = 0; i < free.length; i++) {
            ColumnarPress p = new ColumnarPress();
            int grid = p.add(0, 'g');
            p.setColumns(grid, 4);
            p.setPadding(grid, 1);
            int a = text(p, grid, 10, 30);
            int b = box(p, grid, 'b', 14, 1);
            int c = p.add(grid, 'b');
            p.setMargins(b, 0, 0, 2, 4);
            p.setMargins(c, 0, 0, 1, 2);
            p.setPadding(c, 1);
            // bases 30, 20, 5 and, of the empty column, 0
            p.layOut(Math.max(0, 57 + free[i]));
            String[] want = due[i].split(" ");
            int first = Integer.parseInt(want[0]);
            int second = Integer.parseInt(want[1]);
            int third = Integer.parseInt(want[2]);
            same("free " + free[i], p.widthOf(a), first);
            same("the second column", p.xOf(b) + " " + p.widthOf(b), (1 + first + 2) + " 14");
            same("the third column", p.xOf(c) + " " + p.widthOf(c), (1 + first + second + 1) + " " + (third - 3));
        }
        part = "An item is as wide as it was told, or else as its column less its margins, at least twice its padding";
        ColumnarPress p = new ColumnarPress();
        int grid = p.add(0, 'g');
        int told = box(p, grid, 'b', 0, 1);
        int open = p.add(grid, 'b');
        p.setPadding(open, 20);
        p.layOut(50);
        same("wide enough", p.widthOf(told) + " " + p.widthOf(open), "0 50");
        p.layOut(39);
        same("too narrow", p.widthOf(told) + " " + p.widthOf(open), "0 40");
        part = "The basis of a column is the greatest width of its items that was told, or their least one";
        int t = text(p, grid, 30, 30);
        p.setPadding(open, 0);
        p.layOut(0);
        same("the least width, not the greatest", p.widthOf(t) + " " + p.widthOf(open), "30 30");
        p.setSize(told, 31, 1);
        p.layOut(0);
        same("a told one is greater", p.widthOf(t) + " " + p.widthOf(open), "31 31");
        p.setSize(t, 5, 1);
        p.setSize(told, 3, 1);
        p.layOut(0);
        same("what was told counts, also if it is less", p.widthOf(t) + " " + p.widthOf(open), "5 5");
    }

    private static void gridRows() {
        part = "The items of a grid are placed in rows of as many as there are columns";
        for (int items = 0; items <= 9; items++) {
            ColumnarPress p = new ColumnarPress();
            int grid = p.add(0, 'g');
            p.setColumns(grid, 4);
            for (int i = 0; i < items; i++) box(p, grid, 'b', 10, 5);
            p.layOut(10 * Math.min(4, items));
            same(items + " items", p.heightOf(grid), (items + 3) / 4 * 5);
            same("as wide", p.greatestWidth(grid), 10 * Math.min(4, items));
            if (items > 0) same("the last one", p.xOf(items + 1) + " " + p.yOf(items + 1), (items - 1) % 4 * 10 + " " + (items - 1) / 4 * 5);
        }
        part = "items are as high as in a flexible row, each in its own row of the grid";
        for (int columns = 1; columns <= 3; columns++) {
            ColumnarPress p = new ColumnarPress();
            int grid = p.add(0, 'g');
            p.setColumns(grid, columns);
            for (int i = 0; i < columns; i++) box(p, grid, 'b', 10, 30);
            int low = text(p, grid, 5);
            p.layOut(40);
            same("the next row is as high as its text", p.yOf(low) + " " + p.heightOf(low) + " " + p.heightOf(grid), "30 10 40");
            p.setColumns(grid, columns + 1);
            p.layOut(40);
            same("in the first row", p.yOf(low) + " " + p.heightOf(low) + " " + p.heightOf(grid), "0 30 30");
        }
        part = "A row is as high as its highest item with its margins";
        ColumnarPress p = new ColumnarPress();
        int grid = p.add(0, 'g');
        p.setColumns(grid, 2);
        p.setPadding(grid, 2);
        int a = box(p, grid, 'b', 10, 0);
        int b = box(p, grid, 'b', 10, 0);
        int c = box(p, grid, 'b', 10, 6);
        p.layOut(40);
        same("a row without height", p.yOf(c) + " " + p.heightOf(grid), "2 10");
        p.setMargins(a, 3, 0, 0, 0);
        p.setMargins(b, 0, 4, 0, 0);
        p.layOut(40);
        same("the greater one", p.yOf(a) + " " + p.yOf(b) + " " + p.yOf(c) + " " + p.heightOf(grid), "5 2 6 14");
    }

    private static void liftedWidths() {
        part = "as wide as it was told, or else as fits, for the width of that box less its offset in x, at least 0";
        int[] offset = {-100, -1, 0, 1, 28, 29, 30, 39, 40, 41, 100};
        int[] due = {32, 32, 32, 32, 12, 11, 10, 10, 10, 10, 10};
        for (int i = 0; i < offset.length; i++) {
            ColumnarPress p = new ColumnarPress();
            p.setPadding(0, 15);
            int t = text(p, 0, 10, 10, 8);
            p.setPlace(t, 'a', offset[i], 3);
            p.setMargins(t, 20, 20, 20, 20);
            p.layOut(40);
            same("offset " + offset[i], p.xOf(t) + " " + p.yOf(t) + " " + p.widthOf(t), offset[i] + " 3 " + due[i]);
            p.setSize(t, 400, -1);
            p.layOut(40);
            same("told", p.widthOf(t), 400);
        }
    }

    private static void liftedFrames() {
        part = "the innermost box that has it inside and is shifted or lifted out, or else the root";
        ColumnarPress p = new ColumnarPress();
        p.setPadding(0, 1);
        int a = box(p, 0, 'b', 50, 9);
        p.setPadding(a, 2);
        int b = box(p, a, 'b', 40, 9);
        p.setPadding(b, 3);
        int out = text(p, b, 60, 60);
        p.setPlace(out, 'a', 0, 0);
        p.layOut(100);
        spot(p, out, 0, 0, 100, 20);
        p.setPlace(a, 'r', 0, 0);
        p.layOut(100);
        spot(p, out, 1, 1, 60, 20);
        p.setPlace(b, 'r', 0, 0);
        p.layOut(100);
        spot(p, out, 3, 3, 60, 20);
        p.setPlace(b, 's', 9, 9);
        p.setPlace(a, 's', 9, 9);
        p.layOut(100);
        spot(p, out, 0, 0, 100, 20);
        p.setPlace(b, 'a', 7, 8);
        p.layOut(100);
        spot(p, b, 7, 8, 40, 9);
        spot(p, out, 7, 8, 60, 20);
        p.setPlace(a, 'r', 20, 30);
        p.layOut(100);
        spot(p, b, 28, 39, 40, 9);
        spot(p, out, 28, 39, 60, 20);
        p.setPlace(out, 'r', 1, 1);
        p.layOut(100);
        spot(p, out, 28 + 3 + 1, 39 + 3 + 1, 34, 20);
        part = "a text without words, and what is lifted out of an item";
        int row = p.add(0, 'f');
        int item = box(p, row, 'b', 30, 5);
        int inside = p.add(item, 't');
        p.setPlace(inside, 'a', 5, 6);
        p.layOut(100);
        spot(p, inside, 5, 6, 0, 0);
        p.setPlace(row, 'r', 0, 0);
        p.layOut(100);
        spot(p, inside, 1 + 5, 10 + 6, 0, 0);
    }

    private static void shifted() {
        part = "A box that is shifted is moved by its offsets, with all that is inside, behind the layout, which changes nothing else";
        for (int way = 0; way < 3; way++) {
            ColumnarPress p = new ColumnarPress();
            int around = way == 0 ? 0 : p.add(0, way == 1 ? 'f' : 'b');
            int b = box(p, around, 'b', 20, 20);
            if (way == 2) p.setFloat(b, 'l');
            int in = text(p, b, 5);
            int out = box(p, b, 'b', 3, 3);
            p.setPlace(out, 'a', 1, 2);
            int t = text(p, 0, 30);
            p.layOut(60);
            String lines = p.lineX(t, 0) + " " + p.yOf(t) + " " + p.lineX(in, 0) + " " + p.lineY(in, 0) + " " + p.heightOf(0);
            p.setPlace(b, 'r', -100, 100);
            p.layOut(60);
            spot(p, b, -100, 100, 20, 20);
            spot(p, in, -100, 100, 20, 10);
            spot(p, out, -99, 102, 3, 3);
            same("nothing else", p.lineX(t, 0) + " " + p.yOf(t) + " " + p.lineX(in, 0) + " " + p.lineY(in, 0) + " " + p.heightOf(0), lines);
            same("hit where it is", p.hit(-81, 119) + " " + p.hit(-100, 100), b + " " + in);
            p.setPlace(in, 'r', 7, -7);
            p.layOut(60);
            spot(p, in, -93, 93, 20, 10);
        }
    }

    private static void unitsOfPages() {
        part = "Units are the lines of texts, and the boxes of other kinds with a height more than 0 that have no children, or are rows or grids";
        ColumnarPress p = new ColumnarPress();
        int none = text(p, 0);
        p.setPadding(none, 10);
        p.layOut(50);
        same("a text without words has none", p.pages(10), 0);
        fails("no line", NO_ELEMENT, () -> p.pageOf(10, none, 0));
        int t = text(p, 0, 9);
        p.setSize(t, 20, 0);
        p.layOut(50);
        same("the line of a text of height 0", p.pages(10) + " " + p.pageOf(10, t, 0), "1 0");
        p.setPlace(t, 'a', 0, 0);
        for (char kind : "bfg".toCharArray()) {
            int b = box(p, 0, kind, -1, 0);
            p.layOut(50);
            fails("no height", NO_ELEMENT, () -> p.pageOf(10, b, 0));
            p.setSize(b, -1, 1);
            p.layOut(50);
            same("height 1", p.pageOf(10, b, 0), 0);
            for (int line : new int[] {-1, 1, Integer.MIN_VALUE, Integer.MAX_VALUE}) same("any number", p.pageOf(10, b, line), 0);
            int in = box(p, b, 'b', 5, 0);
            p.layOut(50);
            same("with a child", answer(() -> p.pageOf(10, b, 0)), kind == 'b' ? NO_ELEMENT : (Object) 0);
            fails("a child without height, or of a row or a grid", NO_ELEMENT, () -> p.pageOf(10, in, 0));
            p.setSize(in, 5, 7);
            p.layOut(50);
            same("a child with height", answer(() -> p.pageOf(10, in, 0)), kind == 'b' ? (Object) 0 : NO_ELEMENT);
            p.setFloat(in, 'r');
            p.layOut(50);
            fails("a float, or an item", NO_ELEMENT, () -> p.pageOf(10, in, 0));
            same("it has a child still", answer(() -> p.pageOf(10, b, 0)), kind == 'b' ? NO_ELEMENT : (Object) 0);
            p.setPlace(in, 'a', 0, 0);
            p.layOut(50);
            fails("lifted out", NO_ELEMENT, () -> p.pageOf(10, in, 0));
            same("it has a child even so", answer(() -> p.pageOf(10, b, 0)), kind == 'b' ? NO_ELEMENT : (Object) 0);
            p.setPlace(b, 'a', 0, 0);
            p.layOut(50);
            same("no units", p.pages(400), 0);
            fails("itself lifted out", NO_ELEMENT, () -> p.pageOf(10, b, 0));
        }
        part = "Units of the root alone";
        ColumnarPress q = new ColumnarPress();
        q.setSize(0, -1, 400);
        q.layOut(400);
        same("the root is none", q.pages(10), 0);
        fails("the root is none", NO_ELEMENT, () -> q.pageOf(10, 0, 0));
    }

    private static void endOfThePage() {
        part = "it ends lower than the page itself: its lower end is more than the height of a page below the top of the page";
        for (int height : new int[] {10, 11, 399, 400}) {
            for (int more : new int[] {-1, 0, 1}) {
                ColumnarPress p = new ColumnarPress();
                p.setPadding(0, 20);
                int a = box(p, 0, 'b', -1, 5);
                int b = box(p, 0, 'b', -1, height - 5 + more);
                int c = box(p, 0, 'b', -1, 1);
                p.layOut(50);
                same("the page begins with its first unit", p.pageOf(height, a, 0), 0);
                same("more by " + more, p.pageOf(height, b, 0), more > 0 ? 1 : 0);
                same("the next one", p.pageOf(height, c, 0), more >= 0 ? 1 : 0);
                same("pages", p.pages(height), more >= 0 ? 2 : 1);
            }
        }
        part = "if it is not the first one of its page";
        ColumnarPress p = new ColumnarPress();
        int a = box(p, 0, 'b', -1, 400);
        int b = box(p, 0, 'b', -1, 400);
        int c = box(p, 0, 'b', -1, 1);
        p.setBreak(a, 'f');
        p.layOut(50);
        same("units higher than a page", p.pageOf(10, a, 0) + " " + p.pageOf(10, b, 0) + " " + p.pageOf(10, c, 0), "0 1 2");
        same("as high as a page", p.pages(400) + " " + p.pageOf(400, c, 0), "3 2");
        p.setMargins(b, -40, 0, 0, 0);
        p.layOut(50);
        same("a unit that begins higher up", p.pages(400), 3);
        p.setSize(a, -1, 40);
        p.layOut(50);
        same("both at the top", p.pages(400) + " " + p.pageOf(400, b, 0) + " " + p.pageOf(400, c, 0), "2 0 1");
    }

    private static void forced() {
        part = "it is the first unit of a box whose break is forced";
        ColumnarPress p = new ColumnarPress();
        int a = text(p, 0, 10, 10);
        int b = p.add(0, 'b');
        int in = p.add(b, 'b');
        int t = text(p, in, 10, 10);
        int row = box(p, 0, 'f', -1, 4);
        p.layOut(10);
        same("none is forced", p.pages(400), 1);
        p.setBreak(a, 'f');
        same("the first unit of all", p.pages(400), 1);
        p.setBreak(t, 'f');
        same("the first line, not the second one", p.pageOf(400, t, 0) + " " + p.pageOf(400, t, 1) + " " + p.pages(400), "1 1 2");
        p.setBreak(t, 'a');
        p.setBreak(b, 'f');
        same("a block, two levels up", p.pageOf(400, t, 0) + " " + p.pageOf(400, t, 1) + " " + p.pages(400), "1 1 2");
        p.setBreak(in, 'f');
        p.setBreak(t, 'f');
        same("all three, once", p.pages(400), 2);
        p.setBreak(row, 'f');
        same("a row", p.pages(400) + " " + p.pageOf(400, row, 0), "3 2");
        p.setSize(row, -1, 0);
        p.layOut(10);
        same("no unit, no break", p.pages(400), 2);
        ColumnarPress q = new ColumnarPress();
        int first = q.add(0, 'b');
        int none = box(q, first, 'b', -1, 0);
        int one = box(q, first, 'b', -1, 5);
        int two = box(q, first, 'b', -1, 5);
        q.setBreak(none, 'f');
        q.layOut(10);
        same("a box without height is no unit", q.pages(400), 1);
        q.setBreak(first, 'f');
        q.setBreak(0, 'f');
        same("the first unit of its box", q.pageOf(400, one, 0) + " " + q.pageOf(400, two, 0), "0 0");
        q.setBreak(two, 'f');
        same("and of another", q.pageOf(400, one, 0) + " " + q.pageOf(400, two, 0), "0 1");
    }

    private static void whole() {
        part = "it is the first unit of a box whose break is 'v', the box ends lower than the page, and is not higher than a page";
        // 15 units, then a block of three times 10
        int[] heights = {29, 30, 31, 44, 45, 46};
        String[] due = {"1 1 2", "1 1 1", "1 1 1", "1 1 1", "0 0 0", "0 0 0"};
        String[] free = {"0 1 1", "0 1 1", "0 1 1", "0 0 1", "0 0 0", "0 0 0"};
        for (int i = 0; i < heights.length; i++) {
            ColumnarPress p = new ColumnarPress();
            box(p, 0, 'b', -1, 15);
            int b = p.add(0, 'b');
            for (int k = 0; k < 3; k++) box(p, b, 'b', -1, 10);
            p.layOut(50);
            int height = heights[i];
            same("free, a page of " + height, p.pageOf(height, 3, 0) + " " + p.pageOf(height, 4, 0) + " " + p.pageOf(height, 5, 0), free[i]);
            p.setBreak(b, 'v');
            String want = height == 29 ? free[i] : due[i];
            same("whole, a page of " + height, p.pageOf(height, 3, 0) + " " + p.pageOf(height, 4, 0) + " " + p.pageOf(height, 5, 0), want);
            p.setPadding(b, 1);
            p.layOut(50);
            // 32 high now, and its units end one unit ahead of it
            same("with a padding, a page of " + height, p.pageOf(height, 3, 0), height < 32 ? 0 : 1);
        }
        part = "a whole text, and a whole box of one unit";
        ColumnarPress p = new ColumnarPress();
        box(p, 0, 'b', -1, 10);
        int t = text(p, 0, 9, 9, 9);
        int c = box(p, 0, 'b', -1, 10);
        p.setBreak(t, 'v');
        p.setBreak(c, 'v');
        p.layOut(10);
        same("it fits", p.pageOf(40, t, 0) + " " + p.pageOf(40, c, 0), "0 1");
        same("it does not", p.pageOf(39, t, 0) + " " + p.pageOf(39, t, 2) + " " + p.pageOf(39, c, 0), "1 1 2");
        same("just a page", p.pageOf(30, t, 0) + " " + p.pageOf(30, t, 2) + " " + p.pageOf(30, c, 0), "1 1 2");
        same("higher than a page", p.pageOf(29, t, 0) + " " + p.pageOf(29, t, 1) + " " + p.pageOf(29, t, 2), "1 1 2");
        p.setSize(t, -1, 5);
        p.layOut(10);
        same("its told height counts", p.pageOf(39, t, 0) + " " + p.pageOf(39, t, 2), "0 1");
    }

    private static void secondLine() {
        part = "it is the first line of a text with two lines or more, and the second line ends lower than the page";
        for (int lines = 1; lines <= 3; lines++) {
            for (int height = 24; height <= 36; height++) {
                ColumnarPress p = new ColumnarPress();
                box(p, 0, 'b', -1, 15);
                int t = p.add(0, 't');
                for (int i = 0; i < lines; i++) p.addWord(t, 10);
                p.layOut(10);
                int first = height >= (lines == 1 ? 25 : 35) ? 0 : 1;
                same(lines + " lines, a page of " + height, p.pageOf(height, t, 0), first);
                if (lines > 1) same("the second line", p.pageOf(height, t, 1), first);
                int last = first == 1 ? (height >= 30 ? 1 : 2) : 1;
                if (lines > 2) same("the third line", p.pageOf(height, t, 2), last);
            }
        }
        ColumnarPress p = new ColumnarPress();
        int t = text(p, 0, 9, 9, 9);
        p.layOut(10);
        same("a page has one line alone", p.pageOf(19, t, 0) + " " + p.pageOf(19, t, 1) + " " + p.pageOf(19, t, 2), "0 1 2");
        same("two lines", p.pageOf(20, t, 0) + " " + p.pageOf(20, t, 1) + " " + p.pageOf(20, t, 2), "0 0 1");
    }

    private static void placesOnPages() {
        part = "Places count as they are without shifts";
        ColumnarPress p = new ColumnarPress();
        int b = p.add(0, 'b');
        int one = box(p, b, 'b', -1, 10);
        int two = box(p, b, 'b', -1, 10);
        int three = text(p, 0, 5);
        p.setPlace(b, 'r', 100, 100);
        p.setPlace(two, 'r', 0, -100);
        p.layOut(50);
        same("pages", p.pages(30) + " " + p.pages(29) + " " + p.pages(10), "1 2 3");
        same("units", p.pageOf(10, one, 0) + " " + p.pageOf(10, two, 0) + " " + p.pageOf(10, three, 0), "0 1 2");
        part = "in the order of the tree";
        ColumnarPress q = new ColumnarPress();
        int c = q.add(0, 'b');
        int last = box(q, 0, 'b', -1, 10);
        int in = box(q, c, 'b', -1, 10);
        q.layOut(50);
        same("a child is ahead of a later box with a lesser number", q.pageOf(10, in, 0) + " " + q.pageOf(10, last, 0), "0 1");
        part = "the next number, and begins at the top of this unit";
        ColumnarPress r = new ColumnarPress();
        int w = box(r, 0, 'b', -1, 8);
        int x = box(r, 0, 'b', -1, 5);
        int y = box(r, 0, 'b', -1, 5);
        r.setMargins(x, 3, 0, 0, 0);
        r.layOut(50);
        same("from 11 on", r.pageOf(10, w, 0) + " " + r.pageOf(10, x, 0) + " " + r.pageOf(10, y, 0), "0 1 1");
        r.setMargins(y, 1, 0, 0, 0);
        r.layOut(50);
        same("from 11 to 22", r.pageOf(10, y, 0) + " " + r.pageOf(11, y, 0), "2 1");
    }
}
