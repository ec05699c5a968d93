/** Each promise by small cases, whose answers were reckoned from the document by hand. */
public final class PromiseTests extends Checks {
    public static void main(String[] args) {
        newObject();
        adding();
        addingWords();
        setters();
        blocks();
        collapsing();
        floats();
        floatsGoDown();
        clearing();
        texts();
        widths();
        rowsGrow();
        rowsShrink();
        rowHeights();
        hugeRow();
        grids();
        lifted();
        keeping();
        keepingLifted();
        places();
        queries();
        hits();
        pages();
        breaks();
        sums();
        consistency();
        end();
    }

    private static void newObject() {
        part = "promise 1";
        ColumnarPress p = new ColumnarPress();
        same("contexts", p.contexts(), 0);
        same("isConsistent", p.isConsistent(), true);
        same("leastWidth", p.leastWidth(0), 0);
        same("greatestWidth", p.greatestWidth(0), 0);
        fails("xOf", STATE, () -> p.xOf(0));
        fails("no other box", INDEX, () -> p.setClear(1, true));
        same("layOut", p.layOut(100), 1);
        spot(p, 0, 0, 0, 100, 0);
        same("pages", p.pages(10), 0);
        ColumnarPress q = new ColumnarPress();
        q.add(0, 'b');
        same("objects are apart", p.layOut(100), 0);
        fails("still one box", INDEX, () -> p.xOf(1));
    }

    private static void adding() {
        part = "promise 2";
        ColumnarPress p = new ColumnarPress();
        fails("no parent", INDEX, () -> p.add(1, 'b'));
        fails("no parent", INDEX, () -> p.add(-1, 'x'));
        fails("no kind", ARGUMENT, () -> p.add(0, 'x'));
        fails("no kind", ARGUMENT, () -> p.add(0, 'B'));
        same("text", p.add(0, 't'), 1);
        fails("inside a text", UNSUPPORTED, () -> p.add(1, 'b'));
        fails("inside a text, no kind", ARGUMENT, () -> p.add(1, 'n'));
        same("row", p.add(0, 'f'), 2);
        same("grid", p.add(0, 'g'), 3);
        int deep = 0;
        for (int level = 1; level <= 7; level++) {
            int below = deep;
            deep = p.add(below, 'b');
            same("level " + level, deep, 3 + level);
        }
        int deepest = deep;
        fails("level 8", UNSUPPORTED, () -> p.add(deepest, 'b'));
        for (int i = 11; i < 24; i++) same("box", p.add(0, 'b'), i);
        fails("25 boxes", STATE, () -> p.add(0, 'b'));
        fails("25 boxes, inside a text", STATE, () -> p.add(1, 'b'));
        fails("25 boxes, too deep", STATE, () -> p.add(deepest, 'b'));
        fails("25 boxes, no kind", ARGUMENT, () -> p.add(0, 'q'));
        fails("no box 24", INDEX, () -> p.add(24, 'b'));

        ColumnarPress q = new ColumnarPress();
        box(q, 0, 'b', 10, 10);
        q.layOut(50);
        fails("no kind", ARGUMENT, () -> q.add(0, 'x'));
        spot(q, 1, 0, 0, 10, 10);
        q.add(0, 'b');
        fails("something was changed", STATE, () -> q.yOf(1));
        q.layOut(50);
        spot(q, 2, 0, 10, 50, 0);
    }

    private static void addingWords() {
        part = "promise 3";
        ColumnarPress p = new ColumnarPress();
        int t = p.add(0, 't');
        fails("no box", INDEX, () -> p.addWord(2, 0));
        fails("too short", ARGUMENT, () -> p.addWord(t, 0));
        fails("too long", ARGUMENT, () -> p.addWord(0, 61));
        fails("no text", UNSUPPORTED, () -> p.addWord(0, 1));
        same("1", p.addWord(t, 1), 1);
        same("60", p.addWord(t, 60), 2);
        for (int i = 3; i <= 20; i++) same("more", p.addWord(t, 5), i);
        fails("21 words", STATE, () -> p.addWord(t, 5));
        fails("21 words, too long", ARGUMENT, () -> p.addWord(t, 61));
        same("all in one", p.greatestWidth(t), 1 + 60 + 18 * 5 + 19 * 2);
        p.layOut(400);
        fails("21 words", STATE, () -> p.addWord(t, 5));
        rows(p, t, "0 0 20");
    }

    private static void setters() {
        ColumnarPress p = new ColumnarPress();
        p.add(0, 'b');
        p.layOut(100);
        part = "promise 4";
        fails("no box", INDEX, () -> p.setSize(2, -2, 0));
        fails("width", ARGUMENT, () -> p.setSize(1, -2, 0));
        fails("width", ARGUMENT, () -> p.setSize(1, 401, 0));
        fails("height", ARGUMENT, () -> p.setSize(1, 0, -2));
        fails("height", ARGUMENT, () -> p.setSize(1, 0, 401));
        part = "promise 5";
        fails("no box", INDEX, () -> p.setMargins(-1, 99, 0, 0, 0));
        fails("top", ARGUMENT, () -> p.setMargins(1, -41, 0, 0, 0));
        fails("top", ARGUMENT, () -> p.setMargins(1, 41, 0, 0, 0));
        fails("bottom", ARGUMENT, () -> p.setMargins(1, 0, -41, 0, 0));
        fails("bottom", ARGUMENT, () -> p.setMargins(1, 0, 41, 0, 0));
        fails("left", ARGUMENT, () -> p.setMargins(1, 0, 0, -1, 0));
        fails("left", ARGUMENT, () -> p.setMargins(1, 0, 0, 41, 0));
        fails("right", ARGUMENT, () -> p.setMargins(1, 0, 0, 0, -1));
        fails("right", ARGUMENT, () -> p.setMargins(1, 0, 0, 0, 41));
        part = "promise 6";
        fails("no box", INDEX, () -> p.setPadding(7, 21));
        fails("padding", ARGUMENT, () -> p.setPadding(1, -1));
        fails("padding", ARGUMENT, () -> p.setPadding(1, 21));
        part = "promise 7";
        fails("no box", INDEX, () -> p.setFactors(2, 10, 0));
        fails("grow", ARGUMENT, () -> p.setFactors(1, -1, 0));
        fails("grow", ARGUMENT, () -> p.setFactors(1, 10, 0));
        fails("shrink", ARGUMENT, () -> p.setFactors(1, 0, -1));
        fails("shrink", ARGUMENT, () -> p.setFactors(1, 0, 10));
        part = "promise 8";
        fails("no box", INDEX, () -> p.setColumns(2, 0));
        fails("columns", ARGUMENT, () -> p.setColumns(1, 0));
        fails("columns", ARGUMENT, () -> p.setColumns(1, 5));
        part = "promise 9";
        fails("no box", INDEX, () -> p.setFloat(2, 'x'));
        fails("side", ARGUMENT, () -> p.setFloat(1, 'c'));
        part = "promise 10";
        fails("no box", INDEX, () -> p.setPlace(2, 'x', 0, 0));
        fails("place", ARGUMENT, () -> p.setPlace(1, 'f', 0, 0));
        fails("x", ARGUMENT, () -> p.setPlace(1, 's', -101, 0));
        fails("x", ARGUMENT, () -> p.setPlace(1, 's', 101, 0));
        fails("y", ARGUMENT, () -> p.setPlace(1, 'r', 0, -101));
        fails("y", ARGUMENT, () -> p.setPlace(1, 'a', 0, 101));
        part = "promise 11";
        fails("no box", INDEX, () -> p.setDepth(2, 6));
        fails("depth", ARGUMENT, () -> p.setDepth(1, 6));
        fails("depth", ARGUMENT, () -> p.setDepth(1, -6));
        part = "promise 12";
        fails("no box", INDEX, () -> p.setClear(2, true));
        fails("no box", INDEX, () -> p.setClear(-1, false));
        part = "promise 13";
        fails("no box", INDEX, () -> p.setBreak(2, 'x'));
        fails("break", ARGUMENT, () -> p.setBreak(1, 'n'));
        part = "promise 14";
        fails("no box", INDEX, () -> p.setAlignment(2, 'x'));
        fails("alignment", ARGUMENT, () -> p.setAlignment(1, 'n'));
        part = "a method that throws";
        spot(p, 1, 0, 0, 100, 0);
        same("nothing was changed", p.layOut(100), 0);

        part = "promise 4";
        same("width at first", p.setSize(1, 400, 400), -1);
        same("width before", p.setSize(1, 0, 0), 400);
        same("width before", p.setSize(1, -1, -1), 0);
        part = "promise 5";
        same("top at first", p.setMargins(1, -40, -40, 40, 40), 0);
        same("top before", p.setMargins(1, 40, 40, 0, 0), -40);
        same("top before", p.setMargins(1, 0, 0, 0, 0), 40);
        part = "promise 6";
        same("padding at first", p.setPadding(1, 20), 0);
        same("padding before", p.setPadding(1, 0), 20);
        part = "promise 7";
        same("grow at first", p.setFactors(1, 9, 0), 0);
        same("grow before", p.setFactors(1, 0, 9), 9);
        part = "promise 8";
        same("columns at first", p.setColumns(1, 4), 1);
        same("columns before", p.setColumns(1, 1), 4);
        part = "promise 9";
        same("float at first", p.setFloat(1, 'r'), 'n');
        same("float before", p.setFloat(1, 'l'), 'r');
        same("float before", p.setFloat(1, 'n'), 'l');
        part = "promise 10";
        same("place at first", p.setPlace(1, 'r', -100, 100), 's');
        same("place before", p.setPlace(1, 'a', 100, -100), 'r');
        same("place before", p.setPlace(1, 's', 0, 0), 'a');
        part = "promise 11";
        same("depth at first", p.setDepth(1, 5), 0);
        same("depth before", p.setDepth(1, -5), 5);
        part = "promise 12";
        same("clear at first", p.setClear(1, true), false);
        same("clear before", p.setClear(1, true), true);
        same("clear before", p.setClear(1, false), true);
        part = "promise 13";
        same("break at first", p.setBreak(1, 'f'), 'a');
        same("break before", p.setBreak(1, 'v'), 'f');
        same("break before", p.setBreak(1, 'a'), 'v');
        part = "promise 14";
        same("alignment at first", p.setAlignment(1, 'c'), 'l');
        same("alignment before", p.setAlignment(1, 'r'), 'c');
        same("alignment before", p.setAlignment(1, 'l'), 'r');
        fails("something was changed", STATE, () -> p.xOf(1));

        part = "the root's settings have no meaning";
        ColumnarPress q = new ColumnarPress();
        text(q, 0, 10, 20);
        q.setSize(0, 5, -1);
        q.setMargins(0, 9, 9, 9, 9);
        q.setFloat(0, 'r');
        q.setPlace(0, 'a', 50, 50);
        q.setColumns(0, 3);
        q.setAlignment(0, 'r');
        q.setClear(0, true);
        same("layOut", q.layOut(100), 1);
        spot(q, 0, 0, 0, 100, 10);
        spot(q, 1, 0, 0, 100, 10);
        same("least", q.leastWidth(0), 20);
        same("greatest", q.greatestWidth(0), 32);
        same("width before", q.setSize(0, 7, 30), 5);
        same("place before", q.setPlace(0, 's', 0, 0), 'a');
        q.setPadding(0, 4);
        q.layOut(100);
        spot(q, 0, 0, 0, 100, 30);
        spot(q, 1, 4, 4, 92, 10);
    }

    private static void blocks() {
        part = "promise 15, blocks";
        ColumnarPress p = new ColumnarPress();
        int a = p.add(0, 'b');
        p.setMargins(a, 0, 0, 7, 8);
        p.setPadding(a, 5);
        int in = box(p, a, 'b', -1, 12);
        p.setMargins(in, 0, 0, 2, 3);
        p.layOut(100);
        spot(p, 0, 0, 0, 100, 22);
        spot(p, a, 7, 0, 85, 22);
        spot(p, in, 14, 5, 70, 12);
        // open widths are at least twice the padding, told ones are as told
        p.layOut(20);
        spot(p, a, 7, 0, 10, 22);
        spot(p, in, 14, 5, 0, 12);
        p.setSize(a, 3, -1);
        p.layOut(100);
        spot(p, a, 7, 0, 3, 22);
        spot(p, in, 14, 5, 0, 12);
        p.setSize(a, 60, 4);
        p.layOut(100);
        spot(p, a, 7, 0, 60, 4);
        spot(p, 0, 0, 0, 100, 4);
    }

    private static void collapsing() {
        part = "promise 15, margins";
        ColumnarPress p = new ColumnarPress();
        int a = box(p, 0, 'b', -1, 10);
        int b = box(p, 0, 'b', -1, 10);
        p.setMargins(a, 5, 20, 0, 0);
        p.setMargins(b, 8, -3, 0, 0);
        p.layOut(50);
        same("a", p.yOf(a), 5);
        same("the greatest counts", p.yOf(b), 35);
        same("the least counts in the end", p.heightOf(0), 42);
        p.setMargins(a, 5, -20, 0, 0);
        p.layOut(50);
        same("greatest plus least", p.yOf(b), 15 + 8 - 20);
        same("at least the upper padding", p.heightOf(0), 3 + 10 - 3);
        p.setMargins(b, -30, -40, 0, 0);
        p.layOut(50);
        same("the lesser of two", p.yOf(b), 15 - 30);
        same("not less than 0", p.heightOf(0), 0);
        int c = p.add(0, 'b');
        p.setMargins(c, 3, 9, 0, 0);
        int d = box(p, 0, 'b', -1, 1);
        p.setMargins(d, 4, 0, 0, 0);
        p.setMargins(b, 0, 6, 0, 0);
        p.setMargins(a, 0, 0, 0, 0);
        p.layOut(50);
        same("without height", p.yOf(c), 20 + 6);
        same("behind one without height", p.yOf(d), 20 + 9);
        int e = p.add(a, 'b');
        p.setSize(a, -1, -1);
        p.setMargins(a, 2, 0, 0, 0);
        p.setMargins(e, 7, 0, 0, 0);
        p.layOut(50);
        same("no margin leaves its parent", p.yOf(a) + " " + p.yOf(e) + " " + p.heightOf(a), "2 9 7");
    }

    private static void floats() {
        part = "promise 15, floats";
        ColumnarPress p = new ColumnarPress();
        int l = floating(p, 0, 'l', 20, 15);
        p.setMargins(l, -5, 4, 1, 2);
        int r = floating(p, 0, 'r', 10, 8);
        p.setMargins(r, 3, -9, 4, 6);
        int t = text(p, 0, 30, 30, 30, 30);
        p.setPadding(t, 2);
        p.layOut(100);
        spot(p, l, 1, 0, 20, 15);
        spot(p, r, 84, 3, 10, 8);
        spot(p, t, 0, 0, 100, 34);
        // from 23 to 80, then from 23 to 98, then from 2 to 98
        rows(p, t, "23 2 1, 23 12 2, 2 22 1");
        spot(p, 0, 0, 0, 100, 34);
        p.setSize(t, -1, 0);
        p.setPadding(0, 3);
        p.layOut(100);
        same("the context ends behind its floats", p.heightOf(0), 3 + 19 + 3);
        p.setSize(0, -1, 9);
        p.layOut(100);
        same("but a told height counts", p.heightOf(0), 9);

        ColumnarPress q = new ColumnarPress();
        int a = box(q, 0, 'b', -1, 5);
        q.setMargins(a, 0, 6, 0, 0);
        int inner = q.add(0, 'b');
        q.setMargins(inner, 2, 0, 10, 0);
        q.setPadding(inner, 1);
        int f = floating(q, inner, 'l', 8, 30);
        int after = text(q, 0, 10);
        q.layOut(60);
        spot(q, inner, 10, 11, 50, 2);
        spot(q, f, 11, 12, 8, 30);
        spot(q, after, 0, 13, 60, 10);
        same("a float pushes lines beside its parent", q.lineX(after, 0), 19);
        same("only a context grows by floats", q.heightOf(0), 42);
        int g = q.add(0, 'f');
        q.setFloat(g, 'l');
        text(q, g, 9, 4);
        q.layOut(60);
        spot(q, g, 19, 23, 15, 10);
        same("as fits", q.widthOf(g), 15);
        text(q, g, 60);
        q.layOut(60);
        // least 9 + 60, greatest 15 + 60, given 60
        spot(q, g, 0, 42, 69, 20);

        ColumnarPress s = new ColumnarPress();
        int one = floating(s, 0, 'l', 10, 10);
        int two = floating(s, 0, 'l', 10, 10);
        s.setMargins(two, 5, 0, 0, 0);
        int three = floating(s, 0, 'r', 10, 10);
        int no = floating(s, 0, 'n', 10, 10);
        s.setSize(three, 90, 10);
        s.layOut(100);
        spot(s, one, 0, 0, 10, 10);
        spot(s, two, 10, 5, 10, 10);
        // not beside 20 units of left floats, so from 10 on, where 20 are still taken, and from 15 on
        spot(s, three, 10, 15, 90, 10);
        spot(s, no, 0, 0, 10, 10);
        int four = floating(s, 0, 'l', 5, 5);
        s.layOut(100);
        // not above the one before
        same("from the one before on", s.yOf(four), 15);
    }

    private static void floatsGoDown() {
        part = "promise 15, floats go down";
        ColumnarPress p = new ColumnarPress();
        int a = floating(p, 0, 'l', 30, 0);
        int b = floating(p, 0, 'l', 30, 7);
        int c = floating(p, 0, 'l', 90, 5);
        p.layOut(60);
        // one without height lies 1 high
        spot(p, a, 0, 0, 30, 0);
        spot(p, b, 30, 0, 30, 7);
        spot(p, c, 0, 7, 90, 5);
        p.setSize(b, 31, 7);
        p.layOut(60);
        spot(p, b, 0, 1, 31, 7);
        spot(p, c, 0, 8, 90, 5);
        p.setMargins(b, 0, 0, 0, 40);
        p.setFloat(b, 'r');
        p.layOut(60);
        // too wide, without a float beside it
        spot(p, b, 60 - 40 - 31, 1, 31, 7);

        ColumnarPress q = new ColumnarPress();
        floating(q, 0, 'l', 50, 25);
        int t = text(q, 0, 10, 20, 8);
        q.layOut(60);
        rows(q, t, "50 0 1, 0 25 2");
        same("down to the last line", q.heightOf(t), 35);
        q.setSize(1, 55, 25);
        q.layOut(60);
        rows(q, t, "0 25 3");
        same("below the float", q.heightOf(0), 35);

        ColumnarPress u = new ColumnarPress();
        box(u, 0, 'b', -1, 20);
        floating(u, 0, 'l', 10, 10);
        int above = text(u, 0, 30, 30, 30, 30);
        u.setMargins(above, -20, 0, 0, 0);
        u.layOut(40);
        // the float is from 20 to 30: it begins where the second line ends
        rows(u, above, "0 0 1, 0 10 1, 10 20 1, 0 30 1");
        u.setMargins(above, -15, 0, 0, 0);
        u.layOut(40);
        // the second line is from 15 to 25
        rows(u, above, "0 0 1, 10 10 1, 10 20 1, 0 30 1");
        int fits = u.add(0, 'b');
        u.setFloat(fits, 'r');
        u.setMargins(fits, 0, 0, 5, 6);
        text(u, fits, 20, 20);
        u.layOut(40);
        same("as fits, less its margins", u.widthOf(fits), 29);
        u.layOut(25);
        same("but its least width", u.widthOf(fits), 20);
    }

    private static void clearing() {
        part = "promise 15, clearing";
        ColumnarPress p = new ColumnarPress();
        int f = floating(p, 0, 'r', 10, 20);
        p.setMargins(f, 0, 5, 0, 0);
        int z = p.add(0, 'b');
        p.setClear(z, true);
        p.setMargins(z, 0, 3, 0, 0);
        int b = box(p, 0, 'b', -1, 2);
        p.layOut(50);
        same("below the floats", p.yOf(z), 25);
        same("the place stays if it has no height", p.yOf(b), 3);
        p.setSize(z, -1, 4);
        p.layOut(50);
        same("the place is its lower end", p.yOf(b), 25 + 4 + 3);
        p.setClear(z, false);
        int row = box(p, 0, 'f', -1, 1);
        int grid = box(p, 0, 'g', -1, 1);
        p.layOut(50);
        same("a block is beside floats", p.yOf(z) + " " + p.yOf(b), "0 7");
        same("a row is not", p.yOf(row), 25);
        same("a grid is not", p.yOf(grid), 26);
        p.setMargins(row, 17, 0, 0, 0);
        p.layOut(50);
        same("lower down if its margin says so", p.yOf(row), 9 + 17);
        int next = floating(p, 0, 'l', 10, 5);
        p.setClear(next, true);
        int last = floating(p, 0, 'l', 3, 5);
        p.layOut(50);
        same("floats do not clear", p.yOf(last), p.yOf(next));
    }

    private static void texts() {
        part = "promise 15, texts";
        ColumnarPress p = new ColumnarPress();
        int t = text(p, 0, 10, 10, 10);
        p.layOut(22);
        rows(p, t, "0 0 2, 0 10 1");
        p.layOut(21);
        rows(p, t, "0 0 1, 0 10 1, 0 20 1");
        p.setAlignment(t, 'c');
        p.layOut(27);
        rows(p, t, "2 0 2, 8 10 1");
        p.setAlignment(t, 'r');
        p.layOut(27);
        rows(p, t, "5 0 2, 17 10 1");
        p.layOut(4);
        rows(p, t, "0 0 1, 0 10 1, 0 20 1");
        p.setPadding(t, 20);
        p.layOut(27);
        rows(p, t, "20 20 1, 20 30 1, 20 40 1");
        spot(p, t, 0, 0, 40, 70);
        int none = p.add(0, 't');
        p.setPadding(none, 6);
        p.layOut(62);
        rows(p, t, "20 20 2, 32 30 1");
        spot(p, none, 0, 60, 62, 12);
        same("no lines", p.lines(none), 0);
        p.setSize(t, 67, 5);
        p.layOut(10);
        rows(p, t, "25 20 2, 37 30 1");
        spot(p, t, 0, 0, 67, 5);
    }

    private static void widths() {
        part = "promises 24 and 25";
        ColumnarPress p = new ColumnarPress();
        int t = text(p, 0, 7, 30, 4);
        p.setPadding(t, 3);
        same("least of a text", p.leastWidth(t), 36);
        same("greatest of a text", p.greatestWidth(t), 51);
        int none = p.add(0, 't');
        same("no words", p.leastWidth(none) + p.greatestWidth(none), 0);
        p.setMargins(t, 0, 0, 5, 6);
        int f = floating(p, 0, 'l', 50, 1);
        p.setPadding(0, 1);
        same("least of a block", p.leastWidth(0), 52);
        same("greatest of a block", p.greatestWidth(0), 64);
        p.setPlace(t, 'a', 0, 0);
        same("one is lifted out", p.greatestWidth(0), 52);
        p.setPadding(f, 20);
        p.setSize(f, 11, -1);
        same("told", p.leastWidth(f) + " " + p.greatestWidth(f), "11 11");
        int row = p.add(0, 'f');
        p.setPadding(row, 2);
        text(p, row, 5, 6);
        int in = text(p, row, 9, 9);
        p.setMargins(in, 0, 0, 1, 2);
        int out = box(p, row, 'b', 99, 9);
        p.setPlace(out, 'a', 0, 0);
        same("least of a row", p.leastWidth(row), 4 + 6 + 9 + 3);
        same("greatest of a row", p.greatestWidth(row), 4 + 13 + 20 + 3);
        int grid = p.add(0, 'g');
        p.setColumns(grid, 2);
        p.setPadding(grid, 1);
        text(p, grid, 10);
        text(p, grid, 3, 4);
        int skipped = box(p, grid, 'b', 77, 7);
        p.setPlace(skipped, 'a', 0, 0);
        text(p, grid, 2, 13);
        int last = text(p, grid, 8);
        p.setMargins(last, 0, 0, 4, 0);
        same("least of a grid", p.leastWidth(grid), 2 + 13 + 12);
        same("greatest of a grid", p.greatestWidth(grid), 2 + 17 + 12);
        p.setColumns(grid, 1);
        same("greatest of one column", p.greatestWidth(grid), 2 + 17);
        fails("no box", INDEX, () -> p.leastWidth(14));
        fails("no box", INDEX, () -> p.greatestWidth(-1));
    }

    private static void rowsGrow() {
        part = "promise 15, rows grow";
        ColumnarPress p = new ColumnarPress();
        int row = p.add(0, 'f');
        p.setPadding(row, 2);
        int a = box(p, row, 'b', 10, 5);
        int b = box(p, row, 'b', 10, 5);
        int c = text(p, row, 4, 4);
        p.setMargins(b, 1, 2, 3, 4);
        p.layOut(60);
        spot(p, a, 2, 2, 10, 5);
        spot(p, b, 15, 3, 10, 5);
        spot(p, c, 29, 2, 10, 10);
        p.setFactors(a, 1, 0);
        p.setFactors(c, 2, 0);
        p.layOut(63);
        // 59 less 37 leave 22: 7 and 14, and the unit left over for the first
        spot(p, a, 2, 2, 18, 5);
        spot(p, b, 23, 3, 10, 5);
        spot(p, c, 37, 2, 24, 10);
        p.setFactors(a, 0, 0);
        p.setFactors(b, 3, 0);
        p.setFactors(c, 3, 0);
        p.layOut(64);
        spot(p, b, 15, 3, 22, 5);
        spot(p, c, 41, 2, 21, 10);
    }

    private static void rowsShrink() {
        part = "promise 15, rows shrink";
        ColumnarPress p = new ColumnarPress();
        int row = p.add(0, 'f');
        int a = text(p, row, 9, 9, 8);
        int b = text(p, row, 10, 18);
        int c = text(p, row, 2, 6, 6, 10);
        // 30, 30 and 30, at least 9, 18 and 10
        p.layOut(80);
        same("equal weights", p.widthOf(a) + " " + p.widthOf(b) + " " + p.widthOf(c), "26 27 27");
        p.layOut(46);
        // each would lose 14, b only 12: a and c lose 16 each
        same("one is frozen", p.widthOf(a) + " " + p.widthOf(b) + " " + p.widthOf(c), "14 18 14");
        p.layOut(10);
        same("all are frozen", p.widthOf(a) + " " + p.widthOf(b) + " " + p.widthOf(c), "9 18 10");
        p.setFactors(a, 5, 0);
        p.setFactors(b, 0, 2);
        p.layOut(80);
        // weights 0, 60 and 30 for 10: 6 and 3, and one more
        same("by factors", p.widthOf(a) + " " + p.widthOf(b) + " " + p.widthOf(c), "30 23 27");
        p.layOut(69);
        // 14 and 7, but b has 12 alone: c loses 9
        same("frozen", p.widthOf(a) + " " + p.widthOf(b) + " " + p.widthOf(c), "30 18 21");
        p.setFactors(c, 0, 0);
        p.layOut(60);
        same("no weights are left", p.widthOf(a) + " " + p.widthOf(b) + " " + p.widthOf(c), "30 18 30");
        p.setFactors(b, 0, 0);
        p.layOut(60);
        same("no weights at all", p.widthOf(b), 30);

        ColumnarPress exact = new ColumnarPress();
        int e = exact.add(0, 'f');
        for (int i = 0; i < 4; i++) exact.setFactors(text(exact, e, 5, 5), 0, i < 2 ? 1 : i);
        exact.layOut(31);
        // weights 12, 12, 24 and 36 for 17: 2, 2, 4 and 7, which is just the bound, so none is frozen; 2 more
        same("just the bound", exact.widthOf(2) + " " + exact.widthOf(3) + " " + exact.widthOf(4) + " " + exact.widthOf(5), "9 9 8 5");

        ColumnarPress q = new ColumnarPress();
        int r = q.add(0, 'f');
        int x = text(q, r, 19);
        int y = text(q, r, 9, 9);
        int z = text(q, r, 9, 8);
        q.setFactors(x, 0, 0);
        q.layOut(57);
        // bases 19, 20, 19; 1 is lacking: 0 each, and one unit left over for the first with a weight
        same("left over", q.widthOf(x) + " " + q.widthOf(y) + " " + q.widthOf(z), "19 19 19");

        ColumnarPress s = new ColumnarPress();
        int u = s.add(0, 'f');
        int told = box(s, u, 'b', 20, 1);
        int open = text(s, u, 4, 14);
        s.setFactors(told, 0, 9);
        s.setFactors(open, 0, 9);
        s.layOut(39);
        // one unit is lacking, which is 0 for each; the told one is at its bound
        same("the first ones above their bounds", s.widthOf(told) + " " + s.widthOf(open), "20 19");
    }

    private static void rowHeights() {
        part = "promise 15, heights in rows";
        ColumnarPress p = new ColumnarPress();
        int row = p.add(0, 'f');
        p.setPadding(row, 1);
        int a = p.add(row, 'b');
        p.setMargins(a, 2, -3, 0, 0);
        int in = box(p, a, 'b', 5, 5);
        int b = box(p, row, 'b', 5, 7);
        int c = box(p, row, 'b', 5, 20);
        p.setMargins(c, -9, 4, 0, 0);
        p.layOut(50);
        spot(p, a, 1, 3, 5, 22);
        spot(p, in, 1, 3, 5, 5);
        spot(p, b, 6, 1, 5, 7);
        spot(p, c, 11, 1, 5, 20);
        spot(p, row, 0, 0, 50, 26);
        p.setSize(row, -1, 10);
        p.layOut(50);
        spot(p, row, 0, 0, 50, 10);
        spot(p, a, 1, 3, 5, 22);
        p.setSize(c, 5, 0);
        p.layOut(50);
        same("as high as the highest now", p.heightOf(a), 5);
        p.setFloat(c, 'l');
        p.setClear(c, true);
        p.layOut(50);
        spot(p, c, 11, 1, 5, 0);
        int f = floating(p, a, 'l', 3, 30);
        p.layOut(50);
        same("an item ends behind its floats", p.heightOf(a), 35);
        spot(p, f, 1, 8, 3, 30);
        p.setPlace(b, 'a', 0, 0);
        p.layOut(50);
        spot(p, c, 6, 1, 5, 0);
        spot(p, b, 0, 0, 5, 7);
    }

    private static void hugeRow() {
        part = "promise 15, a huge row";
        ColumnarPress p = new ColumnarPress();
        int row = p.add(0, 'f');
        int in = p.add(row, 'f');
        int small = box(p, row, 'b', 2, 1);
        p.setFactors(in, 0, 9);
        p.setFactors(small, 0, 9);
        for (int i = 0; i < 20; i++) {
            int t = p.add(in, 't');
            for (int k = 0; k < 20; k++) p.addWord(t, 60);
            p.setPadding(t, 20);
            p.setMargins(t, 0, 0, 40, 40);
        }
        same("greatest", p.greatestWidth(in), 20 * (1238 + 40 + 80));
        same("least", p.leastWidth(in), 20 * (60 + 40 + 80));
        p.layOut(0);
        same("at its least", p.widthOf(in), 3600);
        same("the texts, too", p.widthOf(22), 100);
        same("area", p.area(), 3600L * 240 + 20L * 100 * 240 + 2);
        same("isConsistent", p.isConsistent(), true);
    }

    private static void grids() {
        part = "promise 15, grids";
        ColumnarPress p = new ColumnarPress();
        int grid = p.add(0, 'g');
        p.setColumns(grid, 3);
        p.setPadding(grid, 2);
        int a = text(p, grid, 10, 5);
        int b = box(p, grid, 'b', 6, 25);
        int c = p.add(grid, 'b');
        int d = box(p, grid, 'b', 14, 3);
        p.setMargins(b, 3, 4, 1, 2);
        p.setMargins(c, -5, 6, 7, 0);
        p.layOut(60);
        // columns 14, 9 and 7, and 26 more: 23, 18 and 15
        spot(p, a, 2, 2, 23, 32);
        spot(p, b, 26, 5, 6, 25);
        spot(p, c, 50, 2, 8, 26);
        spot(p, d, 2, 34, 14, 3);
        spot(p, grid, 0, 0, 60, 39);
        p.layOut(34);
        same("just enough", p.xOf(b) + " " + p.xOf(c) + " " + p.widthOf(c), "17 32 0");
        p.layOut(20);
        same("not enough", p.xOf(b) + " " + p.xOf(c) + " " + p.widthOf(a), "17 32 14");
        p.setPadding(c, 4);
        p.layOut(20);
        spot(p, c, 32, 2, 8, 26);
        p.setPlace(b, 'a', 0, 0);
        p.layOut(60);
        // columns 10, 15 and 14, and 17 more: 16, 21 and 19; a has two lines
        spot(p, c, 25, 2, 14, 14);
        spot(p, d, 39, 2, 14, 3);
        p.setColumns(grid, 1);
        p.layOut(60);
        spot(p, a, 2, 2, 56, 10);
        spot(p, c, 9, 12, 49, 8);
        spot(p, d, 2, 26, 14, 3);
        int empty = p.add(0, 'g');
        p.setColumns(empty, 4);
        p.layOut(60);
        spot(p, empty, 0, 31, 60, 0);
    }

    private static void lifted() {
        part = "promise 15, lifted out and shifted";
        ColumnarPress p = new ColumnarPress();
        p.setPadding(0, 5);
        int a = box(p, 0, 'b', 40, 20);
        p.setMargins(a, 0, 0, 3, 0);
        p.setPadding(a, 4);
        int in = p.add(a, 'b');
        int out = p.add(in, 'b');
        p.setPlace(out, 'a', 10, -7);
        p.setMargins(out, 9, 9, 9, 9);
        p.setFloat(out, 'l');
        int t = text(p, out, 20, 20, 20);
        p.layOut(60);
        spot(p, a, 8, 5, 40, 20);
        spot(p, in, 12, 9, 32, 0);
        // from the corner of the root; 50 fit
        spot(p, out, 10, -7, 50, 20);
        rows(p, t, "0 0 2, 0 10 1");
        p.setPlace(a, 'r', 100, 50);
        p.layOut(60);
        spot(p, a, 108, 55, 40, 20);
        spot(p, in, 112, 59, 32, 0);
        spot(p, out, 118, 48, 30, 30);
        spot(p, t, 118, 48, 30, 30);
        spot(p, 0, 0, 0, 60, 30);
        int next = box(p, 0, 'b', -1, 5);
        p.layOut(60);
        same("a shift changes nothing else", p.yOf(next), 25);
        p.setPlace(in, 'a', 1, 2);
        p.layOut(60);
        spot(p, in, 109, 57, 0, 0);
        spot(p, out, 119, 50, 20, 30);
        p.setSize(in, 90, 3);
        p.layOut(60);
        spot(p, out, 119, 50, 64, 10);
        p.setPlace(in, 's', 9, 9);
        p.setPlace(out, 'a', -100, 0);
        p.layOut(60);
        spot(p, in, 112, 59, 90, 3);
        spot(p, out, 8, 55, 64, 10);
        p.setPlace(out, 'r', -2, 1);
        p.layOut(60);
        // now a shifted float with margins
        spot(p, out, 112 + 9 - 2, 59 + 9 + 1, 64, 10);
        p.setSize(out, 0, 0);
        p.layOut(60);
        spot(p, t, 119, 69, 0, 30);
    }

    private static void keeping() {
        part = "promise 15, contexts that are kept";
        ColumnarPress p = new ColumnarPress();
        fails("too wide", ARGUMENT, () -> p.layOut(401));
        fails("less than 0", ARGUMENT, () -> p.layOut(-1));
        int block = p.add(0, 'b');
        int f = p.add(block, 'b');
        p.setFloat(f, 'l');
        int t = text(p, f, 10, 10);
        int row = p.add(0, 'f');
        int item = p.add(row, 'b');
        int plain = p.add(item, 'b');
        same("all", p.layOut(100), 4);
        same("none", p.layOut(100), 0);
        same("the root alone has a new width", p.layOut(0 + 400), 2);
        same("contexts", p.contexts(), 6);
        p.setAlignment(t, 'l');
        fails("a set counts also if it changes nothing", STATE, () -> p.xOf(0));
        same("the float and the root", p.layOut(400), 2);
        p.setClear(plain, false);
        same("the item, the row and the root", p.layOut(400), 3);
        p.setPadding(block, 0);
        same("what is inside is kept", p.layOut(400), 1);
        p.setDepth(t, 1);
        p.setBreak(t, 'f');
        same("depths and breaks do not count", p.layOut(400), 0);
        fails("too wide", ARGUMENT, () -> p.layOut(500));
        same("contexts", p.contexts(), 12);
        same("the layout stands", p.widthOf(0), 400);
        p.setFloat(f, 'n');
        same("no context any more", p.layOut(400), 1);
        p.setFloat(f, 'r');
        same("a context again", p.layOut(400), 2);
        p.setSize(row, 50, -1);
        p.layOut(400);
        same("the row has a told width", p.layOut(300), 1);
        same("and back", p.layOut(400), 1);
        p.addWord(t, 3);
        same("a word", p.layOut(400), 2);
        p.add(item, 't');
        same("a box in the item", p.layOut(400), 3);
        p.setFactors(0, 1, 1);
        same("the root itself", p.layOut(400), 1);
        same("isConsistent", p.isConsistent(), true);
        same("isConsistent is counted nowhere", p.contexts(), 25);
        same("nor does it change what is kept", p.layOut(400), 0);
    }

    private static void keepingLifted() {
        part = "promise 15, contexts that are kept around lifted ones";
        ColumnarPress p = new ColumnarPress();
        int f = floating(p, 0, 'l', 30, 30);
        int out = p.add(f, 'b');
        p.setPlace(out, 'a', 0, 0);
        int t = text(p, out, 50, 50);
        same("all", p.layOut(200), 3);
        spot(p, out, 0, 0, 102, 10);
        same("the float is kept, what is lifted out of it is not", p.layOut(80), 2);
        spot(p, out, 0, 0, 80, 20);
        p.addWord(t, 1);
        same("it is inside the float nevertheless", p.layOut(80), 3);
        p.setPlace(f, 'r', 0, 0);
        same("as wide as fits the float now", p.layOut(80), 3);
        spot(p, out, 0, 0, 50, 30);
        p.setPlace(f, 'r', 7, 8);
        same("the same width", p.layOut(80), 2);
        spot(p, out, 7, 8, 50, 30);
        int row = p.add(0, 'f');
        int a = p.add(row, 'b');
        int b = box(p, row, 'b', 5, 9);
        p.layOut(80);
        same("stretched", p.heightOf(a), 9);
        p.setSize(b, 5, 4);
        same("a is kept", p.layOut(80), 3);
        same("but less high now", p.heightOf(a), 4);
    }

    private static void places() {
        part = "promises 16 to 19";
        ColumnarPress p = new ColumnarPress();
        int a = box(p, 0, 'b', 11, 12);
        p.setMargins(a, 4, 0, 3, 0);
        fails("no box", INDEX, () -> p.xOf(2));
        fails("no box", INDEX, () -> p.yOf(-1));
        fails("no box", INDEX, () -> p.widthOf(2));
        fails("no box", INDEX, () -> p.heightOf(Integer.MIN_VALUE));
        fails("not laid out", STATE, () -> p.xOf(1));
        fails("not laid out", STATE, () -> p.yOf(1));
        fails("not laid out", STATE, () -> p.widthOf(1));
        fails("not laid out", STATE, () -> p.heightOf(1));
        p.layOut(30);
        same("xOf", p.xOf(a), 3);
        same("yOf", p.yOf(a), 4);
        same("widthOf", p.widthOf(a), 11);
        same("heightOf", p.heightOf(a), 12);
        p.setAlignment(a, 'l');
        fails("changed since", STATE, () -> p.xOf(1));
        fails("changed since", STATE, () -> p.yOf(1));
        fails("changed since", STATE, () -> p.widthOf(1));
        fails("changed since", STATE, () -> p.heightOf(1));
        fails("no box", INDEX, () -> p.heightOf(2));
    }

    private static void queries() {
        part = "promises 20 to 23";
        ColumnarPress p = new ColumnarPress();
        int t = text(p, 0, 10, 10, 10);
        fails("no box", INDEX, () -> p.lines(2));
        fails("no box", INDEX, () -> p.wordsIn(2, 0));
        fails("no box", INDEX, () -> p.lineX(-1, 0));
        fails("no box", INDEX, () -> p.lineY(2, 0));
        fails("not laid out", STATE, () -> p.lines(0));
        fails("not laid out", STATE, () -> p.wordsIn(0, 0));
        fails("not laid out", STATE, () -> p.lineX(1, 9));
        fails("not laid out", STATE, () -> p.lineY(1, 9));
        p.setMargins(t, 7, 0, 9, 0);
        p.setPadding(t, 1);
        p.layOut(35);
        fails("no text", UNSUPPORTED, () -> p.lines(0));
        fails("no text", UNSUPPORTED, () -> p.wordsIn(0, 0));
        fails("no text", UNSUPPORTED, () -> p.lineX(0, -1));
        fails("no text", UNSUPPORTED, () -> p.lineY(0, 0));
        fails("no line", NO_ELEMENT, () -> p.wordsIn(t, 2));
        fails("no line", NO_ELEMENT, () -> p.lineX(t, -1));
        fails("no line", NO_ELEMENT, () -> p.lineY(t, 2));
        fails("no line", NO_ELEMENT, () -> p.lineY(t, Integer.MAX_VALUE));
        same("lines", p.lines(t), 2);
        same("wordsIn", p.wordsIn(t, 0) + " " + p.wordsIn(t, 1), "2 1");
        same("lineX", p.lineX(t, 0) + " " + p.lineX(t, 1), "1 1");
        same("lineY", p.lineY(t, 0) + " " + p.lineY(t, 1), "1 11");
    }

    private static void hits() {
        part = "promise 26";
        ColumnarPress p = new ColumnarPress();
        fails("not laid out", STATE, () -> p.hit(0, 0));
        int a = box(p, 0, 'b', 10, 10);
        int b = box(p, 0, 'b', 10, 10);
        p.setPlace(b, 'r', 5, -5);
        p.layOut(40);
        same("corner", p.hit(0, 0), a);
        same("last unit", p.hit(9, 4), a);
        same("the later one", p.hit(9, 5), b);
        same("corner", p.hit(5, 5), b);
        same("ahead of the corner", p.hit(4, 5), a);
        same("behind both", p.hit(15, 5), 0);
        same("last unit", p.hit(14, 14), b);
        same("below", p.hit(14, 15), 0);
        fails("outside", NO_ELEMENT, () -> p.hit(40, 0));
        fails("outside", NO_ELEMENT, () -> p.hit(0, 20));
        fails("outside", NO_ELEMENT, () -> p.hit(-1, 0));
        fails("outside", NO_ELEMENT, () -> p.hit(0, -1));
        fails("far outside", NO_ELEMENT, () -> p.hit(Integer.MIN_VALUE, Integer.MAX_VALUE));
        fails("far outside", NO_ELEMENT, () -> p.hit(Integer.MAX_VALUE, Integer.MIN_VALUE));
        p.setDepth(a, 1);
        same("by depth", p.hit(9, 5), a);
        p.setDepth(b, 1);
        same("by number", p.hit(9, 5), b);
        p.setDepth(0, 2);
        same("the root on top", p.hit(9, 5), 0);
        p.setDepth(0, -5);
        p.setDepth(b, -1);
        same("b is below a", p.hit(9, 5), a);
        same("b is above the root", p.hit(12, 12), b);
        p.setSize(0, 40, 5);
        p.layOut(40);
        same("boxes reach out of their parents", p.hit(14, 14), b);
    }

    private static void pages() {
        part = "promises 27 and 28";
        ColumnarPress p = new ColumnarPress();
        fails("too low", ARGUMENT, () -> p.pages(9));
        fails("too high", ARGUMENT, () -> p.pages(401));
        fails("not laid out", STATE, () -> p.pages(10));
        fails("too low", ARGUMENT, () -> p.pageOf(9, 5, 0));
        fails("too high", ARGUMENT, () -> p.pageOf(401, 0, 0));
        fails("no box", INDEX, () -> p.pageOf(10, 1, 0));
        fails("not laid out", STATE, () -> p.pageOf(10, 0, 0));
        int a = box(p, 0, 'b', -1, 12);
        int block = p.add(0, 'b');
        int t = text(p, block, 10, 10, 10, 10);
        int zero = box(p, 0, 'b', -1, 0);
        int row = box(p, 0, 'f', -1, 8);
        int item = text(p, row, 5);
        int grid = p.add(0, 'g');
        int f = floating(p, 0, 'l', 5, 30);
        int out = box(p, 0, 'b', 5, 30);
        p.setPlace(out, 'a', 0, 0);
        p.layOut(10);
        // 0 to 12, lines at 12, 22, 32, 42, the row from 52 to 60
        same("one page", p.pages(60), 1);
        same("two pages", p.pages(59), 2);
        same("the row goes on", p.pageOf(59, row, 77) + " " + p.pageOf(59, t, 3), "1 0");
        same("by line", p.pages(20), 4);
        same("the text begins anew", p.pageOf(20, a, 0) + " " + p.pageOf(20, t, 0), "0 1");
        same("two lines a page", p.pageOf(20, t, 1) + " " + p.pageOf(20, t, 2) + " " + p.pageOf(20, t, 3), "1 2 2");
        same("three lines and the row", p.pageOf(38, t, 2) + " " + p.pages(38), "1 2");
        same("the first line does not stay alone", p.pageOf(31, t, 0) + " " + p.pageOf(32, t, 0), "1 0");
        same("the second line fits", p.pageOf(32, t, 1) + " " + p.pageOf(32, t, 2), "0 1");
        fails("the root is no unit", NO_ELEMENT, () -> p.pageOf(20, 0, 0));
        fails("nor a block with children", NO_ELEMENT, () -> p.pageOf(20, block, 0));
        fails("nor a box without height", NO_ELEMENT, () -> p.pageOf(20, zero, 0));
        fails("nor an item", NO_ELEMENT, () -> p.pageOf(20, item, 0));
        fails("nor a grid without height", NO_ELEMENT, () -> p.pageOf(20, grid, 0));
        fails("nor a float", NO_ELEMENT, () -> p.pageOf(20, f, 0));
        fails("nor what is lifted out", NO_ELEMENT, () -> p.pageOf(20, out, 0));
        fails("no line", NO_ELEMENT, () -> p.pageOf(20, t, 4));
        fails("no line", NO_ELEMENT, () -> p.pageOf(20, t, -1));
        fails("no box", INDEX, () -> p.pageOf(20, 10, 0));
        same("any number", p.pageOf(20, a, -1), 0);
        p.setPlace(a, 'r', 0, 100);
        p.layOut(10);
        same("without shifts", p.pages(60), 1);
        p.setDepth(a, 1);
        p.setAlignment(a, 'c');
        fails("changed since", STATE, () -> p.pages(60));
        fails("changed since", STATE, () -> p.pageOf(60, a, 0));
    }

    private static void breaks() {
        part = "promises 13, 27 and 28, breaks";
        ColumnarPress p = new ColumnarPress();
        int a = box(p, 0, 'b', -1, 10);
        int block = p.add(0, 'b');
        int b = box(p, block, 'b', -1, 10);
        int c = box(p, block, 'b', -1, 10);
        int d = box(p, 0, 'b', -1, 10);
        p.layOut(10);
        p.setBreak(a, 'f');
        p.setBreak(0, 'f');
        same("the first unit begins no second page", p.pages(40), 1);
        p.setBreak(block, 'f');
        same("a block is forced", p.pageOf(40, a, 0) + " " + p.pageOf(40, b, 0) + " " + p.pageOf(40, c, 0), "0 1 1");
        p.setBreak(b, 'f');
        same("both at once", p.pages(40), 2);
        p.setBreak(c, 'f');
        same("one more", p.pages(40) + " " + p.pageOf(40, d, 0), "3 2");
        p.setBreak(b, 'a');
        p.setBreak(c, 'a');
        p.setBreak(block, 'v');
        same("it fits", p.pageOf(30, b, 0), 0);
        same("whole on the next page", p.pageOf(29, b, 0) + " " + p.pageOf(29, c, 0), "1 1");
        same("just as high as a page", p.pageOf(20, b, 0), 1);
        same("higher than a page", p.pageOf(19, b, 0) + " " + p.pageOf(19, c, 0), "1 2");
        p.setBreak(d, 'v');
        same("d fits", p.pageOf(40, d, 0), 0);
        p.setSize(a, -1, 8);
        p.layOut(10);
        same("a higher one breaks inside", p.pageOf(18, b, 0) + " " + p.pageOf(18, c, 0) + " " + p.pageOf(18, d, 0), "0 1 2");
        // what is in the tree ahead may be lower down
        p.setMargins(d, -30, 0, 0, 0);
        p.layOut(10);
        same("a page begins at its first unit", p.pages(27), 2);
        same("d is higher up", p.yOf(d) + " " + p.pageOf(27, d, 0), "-2 1");

        ColumnarPress q = new ColumnarPress();
        int top = box(q, 0, 'b', -1, 10);
        int t = text(q, 0, 10, 10, 10);
        q.setPadding(t, 3);
        q.setBreak(t, 'v');
        q.layOut(16);
        same("a text ends with its padding", q.pageOf(46, t, 0) + " " + q.pageOf(45, t, 0), "0 1");
        same("and is as high", q.pageOf(36, t, 0) + " " + q.pageOf(35, t, 0), "1 0");
        same("a line alone", q.pageOf(20, t, 0) + " " + q.pageOf(32, t, 0) + " " + q.pageOf(33, t, 0), "1 1 0");
        q.layOut(40);
        // 10, 10 and 10 in one line now, from 13 to 23
        q.setBreak(t, 'a');
        same("one line alone", q.pageOf(23, t, 0) + " " + q.pageOf(22, t, 0) + " " + q.pages(23), "0 1 1");
        q.setBreak(t, 'v');
        q.layOut(16);
        same("two first", q.pageOf(10, top, 0) + " " + q.pageOf(10, t, 2) + " " + q.pages(10), "0 3 4");
    }

    private static void sums() {
        part = "promise 29";
        ColumnarPress p = new ColumnarPress();
        p.layOut(0);
        p.layOut(1);
        p.layOut(1);
        same("contexts", p.contexts(), 2);
        part = "promises 30 to 32";
        ColumnarPress q = new ColumnarPress();
        fails("not laid out", STATE, q::area);
        fails("not laid out", STATE, q::filled);
        fails("not laid out", STATE, q::meanLine);
        q.layOut(10);
        same("area", q.area(), 0L);
        fails("no height", ARITHMETIC, q::filled);
        fails("no lines", ARITHMETIC, q::meanLine);
        int t = text(q, 0, 7, 7, 7);
        int out = text(q, 0, 3, 3);
        q.setPlace(out, 'a', 0, 0);
        fails("changed since", STATE, q::area);
        q.layOut(16);
        same("area", q.area(), 16L * 20 + 16 * 20 + 8 * 10);
        same("filled", q.filled(), 270f / 320f);
        same("meanLine", q.meanLine(), 5.0 / 3.0);
        q.layOut(0);
        fails("no width", ARITHMETIC, q::filled);
        same("area", q.area(), (long) 3 * 20);
        same("all lines", q.meanLine(), 1.0);
        q.setSize(0, -1, 400);
        q.setSize(t, 400, 400);
        q.layOut(400);
        same("area", q.area(), 2L * 400 * 400 + 80);
        same("filled", q.filled(), 270f / 160000f);
    }

    private static void consistency() {
        part = "promise 33";
        ColumnarPress p = new ColumnarPress();
        int row = p.add(0, 'f');
        int a = text(p, row, 10, 10);
        text(p, row, 10, 10, 10, 5);
        int f = floating(p, 0, 'l', 5, 50);
        same("not laid out", p.isConsistent(), true);
        fails("still not laid out", STATE, () -> p.xOf(0));
        p.layOut(60);
        same("laid out", p.isConsistent(), true);
        p.setSize(f, 9, 9);
        same("changed since", p.isConsistent(), true);
        fails("still changed", STATE, () -> p.xOf(0));
        p.layOut(31);
        same("laid out anew", p.isConsistent(), true);
        p.addWord(a, 60);
        p.layOut(31);
        same("laid out anew", p.isConsistent(), true);
        spot(p, f, 0, 40, 9, 9);
        same("contexts", p.contexts(), 5 + 5 + 4);
    }
}
