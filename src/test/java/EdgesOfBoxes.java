/**
 * The sentences of the document about boxes, sizes, contexts and what is asked of them that name an edge: the last
 * values that are taken (RefusedCalls has the first ones that are not), what is empty, and what is full.
 */
public final class EdgesOfBoxes extends Checks {
    public static void main(String[] args) {
        fullTree();
        fullTexts();
        sevenDeep();
        lastChild();
        atFirst();
        sizes();
        margins();
        paddings();
        factors();
        columnsInRange();
        offsets();
        depths();
        wordLengths();
        rootHasNoMeaning();
        rootHasMeaning();
        floatHasNoMeaning();
        innerWidth();
        toldHeights();
        emptyBoxes();
        whatIsAContext();
        keptContexts();
        whatEndsALayout();
        withoutLayout();
        widthsOfLayOut();
        hits();
        sums();
        end();
    }

    private static void fullTree() {
        part = "There are at most 24 boxes, numbered from 0 in the order in which they were added";
        ColumnarPress p = new ColumnarPress();
        for (int b = 1; b <= 23; b++) {
            int next = b;
            fails("there is no box " + b, INDEX, () -> p.setClear(next, false));
            same("the number", p.add(b % 2 == 0 ? 0 : b / 2 * 2, "btfg".charAt(b % 2 == 1 ? b % 4 : 0)), b);
            same("there is a box " + b, p.setClear(b, false), false);
        }
        fails("one more", STATE, () -> p.add(0, 'b'));
        fails("no box 24", INDEX, () -> p.setClear(24, false));
        p.layOut(50);
        same("the last box", p.widthOf(23), 50);
        fails("no box 24", INDEX, () -> p.widthOf(24));
    }

    private static void fullTexts() {
        part = "24 boxes, 20 words of 60";
        ColumnarPress p = fullOfWords();
        same("greatest", p.greatestWidth(0), 20 * 60 + 19 * 2);
        same("least", p.leastWidth(0), 60);
        same("one context", p.layOut(0), 1);
        same("20 lines each", p.lines(1) + " " + p.lines(23), "20 20");
        same("the last line", p.lineY(23, 19) + " " + p.wordsIn(23, 19), "190 1");
        same("no width", p.area(), 0L);
        same("all lines", p.meanLine(), 1.0);
        same("pages", p.pages(400) + " " + p.pages(10), "12 460");
        same("the last page", p.pageOf(10, 23, 19), 459);
        same("isConsistent", p.isConsistent(), true);
        fails("one more word", STATE, () -> p.addWord(23, 60));
        ColumnarPress q = fullOfWords();
        same("one context again", q.layOut(400), 1);
        // six words in a line, and two in the last one of four
        same("lines", q.lines(23) + " " + q.wordsIn(23, 0) + " " + q.wordsIn(23, 3), "4 6 2");
        same("the root", q.heightOf(0), 23 * 40);
        same("area", q.area(), 2L * 400 * 920);
        same("filled", q.filled(), 0.75f);
        same("meanLine", q.meanLine(), 5.0);
        same("isConsistent", q.isConsistent(), true);
    }

    private static ColumnarPress fullOfWords() {
        ColumnarPress p = new ColumnarPress();
        for (int b = 1; b <= 23; b++) {
            same("the number of the box", p.add(0, 't'), b);
            for (int i = 1; i <= 20; i++) same("the number of words", p.addWord(b, 60), i);
        }
        return p;
    }

    private static void sevenDeep() {
        part = "would be more than 7 boxes deep, the root being 0";
        for (char kind : "bfg".toCharArray()) {
            ColumnarPress p = new ColumnarPress();
            for (int level = 1; level <= 6; level++) {
                p.add(level - 1, kind);
                p.setPadding(level, 1);
            }
            same("a text at level 7", text(p, 6, 8), 7);
            same("a second box at level 7", p.add(6, kind), 8);
            fails("level 8", UNSUPPORTED, () -> p.add(8, kind));
            p.setPlace(8, 'a', 0, 0);
            fails("a box that is lifted out is as deep", UNSUPPORTED, () -> p.add(8, kind));
            p.layOut(20);
            spot(p, 7, 6, 6, 8, 10);
            same("all paddings", p.heightOf(0), 22);
            same("level 1 again", p.add(0, kind), 9);
        }
    }

    private static void lastChild() {
        part = "Each other box is inside its parent, as its last child at that moment";
        ColumnarPress p = new ColumnarPress();
        int a = p.add(0, 'b');
        int b = box(p, 0, 'b', -1, 5);
        int c = box(p, a, 'b', -1, 7);
        int d = box(p, 0, 'b', -1, 1);
        int e = box(p, a, 'b', -1, 3);
        p.layOut(10);
        same("by parents, then by numbers", p.yOf(a) + " " + p.yOf(c) + " " + p.yOf(e) + " " + p.yOf(b) + " " + p.yOf(d),
                "0 0 7 10 15");
    }

    private static void atFirst() {
        part = "A box has, all 0 at first unless told";
        ColumnarPress p = new ColumnarPress();
        for (char kind : "btfg".toCharArray()) p.add(0, kind);
        for (int b = 0; b < 5; b++) {
            same("width", p.setSize(b, 0, 0), -1);
            same("upper margin", p.setMargins(b, 1, 1, 1, 1), 0);
            same("padding", p.setPadding(b, 1), 0);
            same("factor to grow", p.setFactors(b, 1, 0), 0);
            same("columns", p.setColumns(b, 2), 1);
            same("float", p.setFloat(b, 'l'), 'n');
            same("place", p.setPlace(b, 'r', 1, 1), 's');
            same("depth", p.setDepth(b, 1), 0);
            same("clears", p.setClear(b, true), false);
            same("break", p.setBreak(b, 'f'), 'a');
            same("alignment", p.setAlignment(b, 'c'), 'l');
        }
        ColumnarPress q = new ColumnarPress();
        int row = q.add(0, 'f');
        int a = text(q, row, 10, 10);
        int b = text(q, row, 10, 10);
        q.layOut(40);
        same("a factor to shrink of 1, no margins at the sides", q.widthOf(a) + " " + q.xOf(b), "20 20");
        int c = q.add(0, 'b');
        int d = box(q, 0, 'b', 1, 1);
        q.layOut(40);
        same("no height, no lower margins", q.yOf(c) + " " + q.heightOf(c) + " " + q.yOf(d), "20 0 20");
    }

    private static void sizes() {
        part = "a width and a height, -1 for open at first, up to 400";
        ColumnarPress p = new ColumnarPress();
        int b = p.add(0, 'b');
        box(p, b, 'b', 30, 20);
        int[] taken = {0, 1, 399, 400, -1};
        int before = -1;
        for (int width : taken) {
            for (int height : taken) {
                same("width before", p.setSize(b, width, height), before);
                before = width;
                p.layOut(90);
                spot(p, b, 0, 0, width < 0 ? 90 : width, height < 0 ? 20 : height);
                same("least", p.leastWidth(b), width < 0 ? 30 : width);
                same("greatest", p.greatestWidth(b), width < 0 ? 30 : width);
            }
        }
    }

    private static void margins() {
        part = "margins at the top and at the bottom, from -40 to 40; at the left and at the right, from 0 to 40";
        ColumnarPress p = new ColumnarPress();
        int a = box(p, 0, 'b', -1, 100);
        int b = box(p, 0, 'b', -1, 100);
        int c = box(p, 0, 'b', -1, 1);
        int before = 0;
        for (int top : new int[] {-40, -39, 0, 39, 40}) {
            for (int bottom : new int[] {40, 39, 0, -39, -40}) {
                same("upper before", p.setMargins(b, top, bottom, 0, 0), before);
                before = top;
                p.layOut(90);
                same("top", p.yOf(b), 100 + top);
                same("next", p.yOf(c), 200 + top + bottom);
            }
        }
        for (int left : new int[] {0, 1, 39, 40}) {
            for (int right : new int[] {0, 1, 39, 40}) {
                p.setMargins(a, 0, 0, left, right);
                p.layOut(90);
                same("x and width", p.xOf(a) + " " + p.widthOf(a), left + " " + (90 - left - right));
            }
        }
    }

    private static void paddings() {
        part = "a padding from 0 to 20, at all four sides";
        ColumnarPress p = new ColumnarPress();
        int a = p.add(0, 'b');
        int in = box(p, a, 'b', -1, 5);
        int before = 0;
        for (int padding : new int[] {20, 19, 1, 0}) {
            same("before", p.setPadding(a, padding), before);
            before = padding;
            p.layOut(90);
            spot(p, in, padding, padding, 90 - 2 * padding, 5);
            same("height", p.heightOf(a), 5 + 2 * padding);
        }
    }

    private static void factors() {
        part = "factors to grow and to shrink from 0 to 9";
        ColumnarPress p = new ColumnarPress();
        int row = p.add(0, 'f');
        int a = text(p, row, 10, 10, 8);
        int b = text(p, row, 10, 10, 8);
        int before = 0;
        // 30 and 30, from 9 + 1 on with ten units more
        p.setFactors(b, 1, 1);
        p.addWord(a, 1);
        p.addWord(b, 1);
        int whole = 2 * (10 + 2 + 10 + 2 + 8 + 2 + 1);
        for (int grow : new int[] {0, 1, 8, 9}) {
            same("before", p.setFactors(a, grow, 0), before);
            before = grow;
            p.layOut(whole + grow + 1);
            same("grown", p.widthOf(a) + " " + p.widthOf(b), (whole / 2 + grow) + " " + (whole / 2 + 1));
        }
        for (int shrink : new int[] {0, 1, 8, 9}) {
            p.setFactors(a, 0, shrink);
            p.layOut(whole - shrink - 1);
            same("shrunk", p.widthOf(a) + " " + p.widthOf(b), (whole / 2 - shrink) + " " + (whole / 2 - 1));
        }
    }

    private static void columnsInRange() {
        part = "columns from 1 to 4";
        ColumnarPress p = new ColumnarPress();
        int grid = p.add(0, 'g');
        for (int i = 0; i < 5; i++) box(p, grid, 'b', 10, 5);
        int before = 1;
        for (int columns = 1; columns <= 4; columns++) {
            same("before", p.setColumns(grid, columns), before);
            before = columns;
            p.layOut(columns * 10);
            same("the second item", p.xOf(3) + " " + p.yOf(3), columns == 1 ? "0 5" : "10 0");
            same("the last item", p.xOf(6) + " " + p.yOf(6), (4 % columns) * 10 + " " + (4 / columns) * 5);
            same("as high", p.heightOf(grid), (4 / columns + 1) * 5);
            same("as wide", p.greatestWidth(grid), columns * 10);
        }
    }

    private static void offsets() {
        part = "two offsets from -100 to 100";
        int[] taken = {-100, -99, 0, 99, 100};
        for (int x : taken) {
            ColumnarPress p = new ColumnarPress();
            int a = box(p, 0, 'b', 10, 10);
            int b = box(p, 0, 'b', 10, 10);
            for (int y : taken) {
                same("before", p.setPlace(b, 'r', x, y), 's');
                p.layOut(90);
                spot(p, b, x, 10 + y, 10, 10);
                same("before", p.setPlace(b, 'a', x, y), 'r');
                p.layOut(90);
                spot(p, b, x, y, 10, 10);
                same("before", p.setPlace(b, 's', x, y), 'a');
                p.layOut(90);
                spot(p, b, 0, 10, 10, 10);
                spot(p, a, 0, 0, 10, 10);
            }
        }
    }

    private static void depths() {
        part = "a depth from -5 to 5";
        ColumnarPress p = new ColumnarPress();
        int[] boxes = new int[11];
        for (int i = 0; i < 11; i++) {
            boxes[i] = box(p, 0, 'b', 10, 10);
            p.setPlace(boxes[i], 'a', 0, 0);
        }
        p.setSize(0, -1, 10);
        p.layOut(10);
        same("all 0: by rising numbers", p.hit(3, 3), boxes[10]);
        p.setDepth(0, -5);
        for (int i = 0; i < 11; i++) {
            same("before", p.setDepth(boxes[i], 5 - i), 0);
            same("5 is the highest", p.hit(3, 3), boxes[0]);
        }
        for (int i = 0; i < 11; i++) {
            same("the highest one", p.hit(3, 3), boxes[i]);
            same("before", p.setDepth(boxes[i], -5), 5 - i);
        }
        same("all -5: by rising numbers", p.hit(3, 3), boxes[10]);
        same("before", p.setDepth(0, -4), -5);
        same("the root above", p.hit(3, 3), 0);
    }

    private static void wordLengths() {
        part = "the length of a word, 1 to 60";
        ColumnarPress p = new ColumnarPress();
        int t = p.add(0, 't');
        same("1", p.addWord(t, 1), 1);
        same("least", p.leastWidth(t), 1);
        same("2", p.addWord(t, 2), 2);
        same("59", p.addWord(t, 59), 3);
        same("least", p.leastWidth(t), 59);
        same("60", p.addWord(t, 60), 4);
        same("least", p.leastWidth(t), 60);
        same("greatest", p.greatestWidth(t), 1 + 2 + 59 + 60 + 6);
    }

    private static void rootHasNoMeaning() {
        part = "For the root, all of these but the padding, the height and the depth have no meaning";
        for (int i = 0; i < 10; i++) {
            ColumnarPress p = new ColumnarPress();
            int f = floating(p, 0, 'r', 10, 30);
            int t = text(p, 0, 10, 20);
            int out = box(p, 0, 'b', -1, 4);
            text(p, out, 30);
            p.setPlace(out, 'a', 5, 6);
            p.layOut(100);
            same("set " + i, setRoot(p, i), due(i));
            same("greatest", p.greatestWidth(0), 32);
            same("least", p.leastWidth(0), 20);
            same("but it is a set", p.layOut(100), 1);
            spot(p, 0, 0, 0, 100, 30);
            spot(p, f, 90, 0, 10, 30);
            spot(p, t, 0, 0, 100, 10);
            rows(p, t, "0 0 2");
            spot(p, out, 5, 6, 30, 4);
            same("pages", p.pages(10), 1);
            same("hit", p.hit(0, 0) + " " + p.hit(99, 29) + " " + p.hit(50, 25), t + " " + f + " 0");
        }
    }

    private static Object setRoot(ColumnarPress p, int i) {
        switch (i) {
            case 0: return p.setSize(0, 0, -1);
            case 1: return p.setSize(0, 400, -1);
            case 2: return p.setMargins(0, 40, 40, 40, 40);
            case 3: return p.setMargins(0, -40, -40, 0, 0);
            case 4: return p.setFactors(0, 9, 9);
            case 5: return p.setColumns(0, 4);
            case 6: return p.setFloat(0, 'l');
            case 7: return p.setPlace(0, 'r', 100, -100);
            case 8: return p.setPlace(0, 'a', -100, 100);
            default: return p.setClear(0, true) + " " + p.setAlignment(0, 'r') + " " + p.setBreak(0, 'f');
        }
    }

    private static Object due(int i) {
        return i < 2 ? (Object) (-1) : i < 5 ? (Object) 0 : i == 5 ? (Object) 1 : i == 6 ? (Object) 'n' : i < 9 ? (Object) 's' : "false l a";
    }

    private static void rootHasMeaning() {
        part = "For the root, the padding, the height and the depth";
        ColumnarPress p = new ColumnarPress();
        int a = box(p, 0, 'b', -1, 5);
        p.setPadding(0, 20);
        same("least", p.leastWidth(0), 40);
        p.layOut(39);
        spot(p, a, 20, 20, 0, 5);
        spot(p, 0, 0, 0, 39, 45);
        p.setSize(0, -1, 0);
        p.layOut(41);
        spot(p, a, 20, 20, 1, 5);
        spot(p, 0, 0, 0, 41, 0);
        p.setSize(0, -1, 400);
        p.layOut(41);
        same("height", p.heightOf(0), 400);
        p.setDepth(0, 1);
        same("depth", p.hit(20, 20), 0);
    }

    private static void floatHasNoMeaning() {
        part = "A float has no meaning for a box that is lifted out, or whose parent is a row or a grid";
        for (char side : "nlr".toCharArray()) {
            ColumnarPress p = new ColumnarPress();
            int row = p.add(0, 'f');
            int a = box(p, row, 'b', 10, 50);
            int grid = p.add(0, 'g');
            int b = box(p, grid, 'b', 10, 40);
            int out = box(p, 0, 'b', 10, 300);
            p.setPlace(out, 'a', 3, 4);
            int t = text(p, 0, 50, 40);
            for (int box : new int[] {a, b, out}) p.setFloat(box, side);
            p.layOut(100);
            same("contexts", p.contexts(), 6);
            spot(p, a, 0, 0, 10, 50);
            spot(p, b, 0, 50, 10, 40);
            spot(p, out, 3, 4, 10, 300);
            spot(p, t, 0, 90, 100, 10);
            same("no line is shorter", p.lineX(t, 0), 0);
            same("the root", p.heightOf(0), 100);
            same("a row has pages", p.pageOf(50, row, 0) + " " + p.pageOf(50, t, 0), "0 1");
        }
    }

    private static void innerWidth() {
        part = "The inner width is the width less twice the padding, at least 0";
        ColumnarPress p = new ColumnarPress();
        int a = p.add(0, 'b');
        p.setPadding(a, 10);
        int in = p.add(a, 'b');
        int[] widths = {0, 1, 19, 20, 21};
        int[] inner = {0, 0, 0, 0, 1};
        for (int i = 0; i < widths.length; i++) {
            p.setSize(a, widths[i], -1);
            p.layOut(100);
            same("told " + widths[i], p.widthOf(a) + " " + p.widthOf(in), widths[i] + " " + inner[i]);
        }
        int r = floating(p, a, 'r', 4, 5);
        p.setSize(a, 3, -1);
        p.layOut(100);
        same("the right edge is that of the padding", p.xOf(r), 10 - 4);
    }

    private static void toldHeights() {
        part = "A height that is told counts";
        for (char kind : "btfg".toCharArray()) {
            for (int told : new int[] {0, 1, 400}) {
                ColumnarPress p = new ColumnarPress();
                int b = kind == 't' ? text(p, 0, 5) : p.add(0, kind);
                if (kind == 'b') floating(p, b, 'l', 5, 50);
                if (kind == 'f' || kind == 'g') box(p, b, 'b', 5, 50);
                p.setPadding(b, 7);
                p.setSize(b, -1, told);
                p.layOut(60);
                same(kind + " in the flow", p.heightOf(b), told);
                p.setFloat(b, 'r');
                p.layOut(60);
                same(kind + " as a float", p.heightOf(b) + " " + p.heightOf(0), told + " " + told);
                p.setPlace(b, 'a', 0, 0);
                p.layOut(60);
                same(kind + " lifted out", p.heightOf(b) + " " + p.heightOf(0), told + " 0");
            }
        }
    }

    private static void emptyBoxes() {
        part = "otherwise, a box is as high as its contents, with twice the padding: without any";
        for (char kind : "btfg".toCharArray()) {
            ColumnarPress p = new ColumnarPress();
            int b = p.add(0, kind);
            p.layOut(60);
            spot(p, b, 0, 0, 60, 0);
            p.setPadding(b, 20);
            p.layOut(60);
            spot(p, b, 0, 0, 60, 40);
            same("widths", p.leastWidth(b) + " " + p.greatestWidth(b), "40 40");
            p.setFloat(b, 'r');
            p.layOut(60);
            spot(p, b, 20, 0, 40, 40);
            p.setPlace(b, 'a', 1, 1);
            p.layOut(60);
            spot(p, b, 1, 1, 40, 40);
            if (kind == 't') {
                fails("no line", NO_ELEMENT, () -> p.lineY(b, 0));
                same("no lines", p.lines(b), 0);
            }
        }
    }

    private static void whatIsAContext() {
        part = "The root, floats, boxes that are lifted out, rows, grids, and children of rows and grids are contexts";
        ColumnarPress p = new ColumnarPress();
        same("the root", p.layOut(50), 1);
        int b = p.add(0, 'b');
        int in = text(p, b, 5);
        same("no block, no text", p.layOut(50), 1);
        p.setPlace(b, 'r', 1, 1);
        p.setClear(in, true);
        same("none that is shifted or clears", p.layOut(50), 1);
        p.setFloat(in, 'r');
        same("a float", p.layOut(50), 2);
        p.setPlace(in, 'a', 0, 0);
        same("one that is lifted out", p.layOut(50), 2);
        p.setFloat(in, 'n');
        same("still lifted out", p.layOut(50), 2);
        p.setPlace(in, 's', 0, 0);
        same("none of both", p.layOut(50), 1);
        int row = p.add(0, 'f');
        same("a row", p.layOut(50), 2);
        int item = p.add(row, 'b');
        same("an item of a row", p.layOut(50), 3);
        text(p, item, 3);
        same("what is inside an item is none", p.layOut(50), 3);
        int grid = p.add(0, 'g');
        same("a grid, and nothing else anew", p.layOut(50), 2);
        text(p, grid, 1);
        same("an item of a grid", p.layOut(50), 3);
        same("all kept", p.layOut(50), 0);
        same("so far", p.contexts(), 1 + 1 + 1 + 2 + 2 + 2 + 1 + 2 + 3 + 3 + 2 + 3);
    }

    private static void keptContexts() {
        part = "A context is kept if it was laid out for the same width last";
        ColumnarPress p = new ColumnarPress();
        int f = p.add(0, 'b');
        p.setFloat(f, 'l');
        text(p, f, 10, 10);
        same("new", p.layOut(0), 2);
        same("the same", p.layOut(0), 0);
        same("10 is the least width, as at 0", p.layOut(10), 1);
        same("11", p.layOut(11), 2);
        same("22", p.layOut(22), 2);
        same("22 is the greatest, too", p.layOut(23), 1);
        same("not the width before the last", p.layOut(22), 1);
        same("not the one before that", p.layOut(11), 2);
        same("400", p.layOut(400), 2);
        part = "nothing was set or added of it or of a box inside it; a set counts also if it sets what was there";
        int row = p.add(0, 'f');
        int item = p.add(row, 'b');
        int deep = p.add(item, 't');
        int beside = p.add(row, 'b');
        int out = p.add(item, 'b');
        p.setPlace(out, 'a', 0, 0);
        int inOut = p.add(out, 'b');
        p.layOut(400);
        same("all kept", p.layOut(400), 0);
        for (int i = 0; i < 10; i++) {
            setAgain(p, deep, i);
            same("the item, the row, the root, set " + i, p.layOut(400), 3);
            setAgain(p, beside, i);
            same("the item beside, the row, the root, set " + i, p.layOut(400), 3);
            setAgain(p, row, i);
            same("the row, the root, set " + i, p.layOut(400), 2);
            setAgain(p, 0, i);
            same("the root, set " + i, p.layOut(400), 1);
            setAgain(p, f, i);
            same("the float, the root, set " + i, p.layOut(400), 2);
        }
        same("all kept", p.layOut(400), 0);
        p.addWord(deep, 1);
        same("a word", p.layOut(400), 3);
        part = "A box inside a box that is lifted out is inside all boxes around both";
        p.setPadding(inOut, 0);
        same("lifted out, item, row, root", p.layOut(400), 4);
        p.add(inOut, 'b');
        same("something was added", p.layOut(400), 4);
        p.setClear(out, false);
        same("itself", p.layOut(400), 4);
        part = "Depths and breaks do not count";
        for (int b = 0; b <= inOut; b++) {
            p.setDepth(b, 3);
            p.setBreak(b, 'v');
        }
        same("all kept", p.layOut(400), 0);
    }

    /** Sets what is there; the box is a float or in the flow, and nothing else was set of it. */
    private static void setAgain(ColumnarPress p, int b, int i) {
        switch (i) {
            case 0: p.setSize(b, -1, -1); break;
            case 1: p.setMargins(b, 0, 0, 0, 0); break;
            case 2: p.setPadding(b, 0); break;
            case 3: p.setFactors(b, 0, 1); break;
            case 4: p.setColumns(b, 1); break;
            case 5: p.setFloat(b, p.setFloat(b, 'n')); break;
            case 6: p.setPlace(b, 's', 0, 0); break;
            case 7: p.setClear(b, false); break;
            case 8: p.setAlignment(b, 'l'); break;
            default: p.setAlignment(b, p.setAlignment(b, 'r'));
        }
    }

    private static void whatEndsALayout() {
        part = "if nothing was laid out, or something was changed since";
        for (int i = 0; i < 14; i++) {
            ColumnarPress p = new ColumnarPress();
            int t = text(p, 0, 5);
            Class<?> never = STATE;
            fails("nothing was laid out", never, () -> p.xOf(t));
            p.layOut(30);
            same("a layout stands", p.xOf(t), 0);
            if (i < 10) setAgain(p, t, i);
            if (i == 10) p.add(0, 'b');
            if (i == 11) p.addWord(t, 1);
            if (i == 12) p.setDepth(t, 0);
            if (i == 13) p.setBreak(t, 'f');
            Object due = i < 12 ? STATE : (Object) 0;
            same("xOf behind change " + i, answer(() -> p.xOf(t)), due);
            same("yOf behind change " + i, answer(() -> p.yOf(t)), due);
            same("widthOf behind change " + i, answer(() -> p.widthOf(t)), i < 12 ? STATE : (Object) 30);
            same("heightOf behind change " + i, answer(() -> p.heightOf(t)), i < 12 ? STATE : (Object) 10);
            same("lines behind change " + i, answer(() -> p.lines(t)), i < 12 ? STATE : (Object) 1);
            same("wordsIn behind change " + i, answer(() -> p.wordsIn(t, 0)), i < 12 ? STATE : (Object) 1);
            same("lineX behind change " + i, answer(() -> p.lineX(t, 0)), due);
            same("lineY behind change " + i, answer(() -> p.lineY(t, 0)), due);
            same("hit behind change " + i, answer(() -> p.hit(0, 0)), i < 12 ? STATE : (Object) 1);
            same("pages behind change " + i, answer(() -> p.pages(10)), i < 12 ? STATE : (Object) 1);
            same("pageOf behind change " + i, answer(() -> p.pageOf(10, t, 0)), due);
            same("area behind change " + i, answer(p::area), i < 12 ? STATE : (Object) 600L);
            same("filled behind change " + i, answer(p::filled), i < 12 ? STATE : (Object) (50f / 300f));
            same("meanLine behind change " + i, answer(p::meanLine), i < 12 ? STATE : (Object) 1.0);
            same("isConsistent behind change " + i, p.isConsistent(), true);
            same("contexts behind change " + i, p.contexts(), 1);
            p.layOut(30);
            same("a layout stands again", p.xOf(t), 0);
        }
    }

    private static void withoutLayout() {
        part = "leastWidth and greatestWidth need no layout, and are those of now";
        ColumnarPress p = new ColumnarPress();
        int b = p.add(0, 'b');
        int t = text(p, b, 9, 9);
        same("never laid out", p.leastWidth(t) + " " + p.greatestWidth(t), "9 20");
        p.layOut(3);
        p.addWord(t, 11);
        same("something was changed since", p.leastWidth(0) + " " + p.greatestWidth(0), "11 33");
        p.setPlace(b, 'a', 0, 0);
        same("without children that are in the flow", p.leastWidth(0) + " " + p.greatestWidth(0), "0 0");
        same("itself", p.leastWidth(b) + " " + p.greatestWidth(b), "11 33");
        p.layOut(20);
        p.setMargins(t, 0, 0, 40, 40);
        same("with margins", p.leastWidth(b) + " " + p.greatestWidth(b) + " " + p.greatestWidth(t), "91 113 33");
    }

    private static void widthsOfLayOut() {
        part = "layOut: the width, 0 to 400";
        ColumnarPress p = new ColumnarPress();
        int b = box(p, 0, 'b', -1, 5);
        for (int width : new int[] {0, 1, 399, 400}) {
            same("anew", p.layOut(width), 1);
            same("width", p.widthOf(0) + " " + p.widthOf(b), width + " " + width);
        }
        fails("401", ARGUMENT, () -> p.layOut(401));
        fails("-1", ARGUMENT, () -> p.layOut(-1));
        same("the layout stands", p.widthOf(b), 400);
        same("contexts", p.contexts(), 4);
    }

    private static void hits() {
        part = "hit: at their left or upper end or further, and ahead of their right and lower ones";
        ColumnarPress p = new ColumnarPress();
        int a = box(p, 0, 'b', 1, 1);
        p.setPlace(a, 'a', 20, 20);
        int none = box(p, 0, 'b', 0, 400);
        p.setPlace(none, 'a', 30, 0);
        int flat = box(p, 0, 'b', 400, 0);
        p.setPlace(flat, 'a', 0, 40);
        p.layOut(100);
        same("its only point", p.hit(20, 20), a);
        for (int[] at : new int[][] {{19, 20}, {21, 20}, {20, 19}, {20, 21}, {30, 7}, {7, 40}, {0, 0}}) {
            fails("a point of no box", NO_ELEMENT, () -> p.hit(at[0], at[1]));
        }
        int[] far = {Integer.MIN_VALUE, Integer.MAX_VALUE, 0};
        p.setSize(0, -1, 400);
        p.layOut(400);
        same("the root's corners", p.hit(0, 0) + " " + p.hit(399, 399), "0 0");
        for (int x : far) {
            for (int y : far) {
                if (x != 0 || y != 0) fails("far away", NO_ELEMENT, () -> p.hit(x, y));
            }
        }
        p.setPlace(a, 'a', -100, -100);
        p.layOut(400);
        same("ahead of the root's corner", p.hit(-100, -100), a);
    }

    private static void sums() {
        part = "contexts, area, filled, meanLine: nothing, and as much as there can be";
        ColumnarPress p = new ColumnarPress();
        same("contexts", p.contexts(), 0);
        p.layOut(0);
        same("area", p.area(), 0L);
        fails("no width, no height", ARITHMETIC, p::filled);
        fails("no lines", ARITHMETIC, p::meanLine);
        p.setSize(0, -1, 1);
        p.layOut(0);
        fails("no width", ARITHMETIC, p::filled);
        p.layOut(1);
        same("no words", p.filled(), 0f);
        fails("no lines", ARITHMETIC, p::meanLine);
        int t = p.add(0, 't');
        p.layOut(1);
        same("a text without words", p.filled(), 0f);
        fails("no lines", ARITHMETIC, p::meanLine);
        p.addWord(t, 60);
        p.layOut(1);
        same("more than full", p.filled(), 600f);
        same("one line", p.meanLine(), 1.0);
        p.setPlace(t, 'a', 0, 0);
        p.setSize(t, 400, 400);
        p.setSize(0, -1, 400);
        p.layOut(400);
        same("filled", p.filled(), 600f / 160000f);
        same("area", p.area(), 320000L);
        for (int i = 0; i < 6; i++) p.addWord(t, 1);
        p.setSize(t, 1, 1);
        p.layOut(7);
        same("rounded as float", p.filled(), 660f / 2800f);
        same("rounded as double", p.meanLine(), 1.0);
        p.setSize(t, 4, 1);
        p.layOut(7);
        // 60, and three times two words
        same("7 words in 4 lines", p.meanLine(), 7.0 / 4.0);
        p.setSize(t, 7, 1);
        p.layOut(7);
        same("7 words in 3 lines", p.meanLine(), 7.0 / 3.0);
        same("isConsistent", p.isConsistent(), true);
    }
}
