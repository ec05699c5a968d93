import java.util.List;
import java.util.NoSuchElementException;
import java.util.Random;

/** Long runs of calls, the same ones each time, whose answers are compared with those of PlainModel. */
public final class RandomRuns {
    interface Call { Object run(); }

    private static final int MOST_CALLS = 512;

    private static int wrong = 0;
    private static int compared = 0;

    private final Random random;
    private final int run;
    private final int style;
    private final ColumnarPress press = new ColumnarPress();
    private final PlainModel model = new PlainModel();
    private int calls = 0;

    private RandomRuns(int run) {
        this.run = run;
        random = new Random(run * 7919L + 13);
        style = run % 6;
    }

    public static void main(String[] args) {
        int runs = args.length > 0 ? Integer.parseInt(args[0]) : 6000;
        for (int run = 0; run < runs && wrong < 20; run++) new RandomRuns(run).go();
        System.out.println(compared + " answers compared, " + wrong + " wrong");
        if (wrong != 0) System.exit(1);
    }

    private void due(String what, Call call, Object want) {
        // behind that, answers are free
        if (calls >= MOST_CALLS) return;
        Object got;
        calls++;
        try {
            got = call.run();
        } catch (RuntimeException e) {
            got = e.getClass().getSimpleName();
        }
        compared++;
        if (!got.equals(want)) {
            wrong++;
            System.out.println("run " + run + ", call " + calls + ": " + what + " answered " + got + ", due is " + want);
        }
    }

    /** Any number of a range, and both ends of it more often than the others. */
    private int pick(int from, int to) {
        if (chance(8)) return chance(50) ? from : to;
        return from + random.nextInt(to - from + 1);
    }

    private char one(String of) { return of.charAt(random.nextInt(of.length())); }

    private boolean chance(int percent) { return random.nextInt(100) < percent; }

    private void go() {
        // some runs look seldom, so that their trees grow and change for long
        int looks = run % 5 == 0 ? 3 : 12;
        while (calls < MOST_CALLS) {
            if (chance(model.boxes.size() < 6 + style ? 40 : 8)) add();
            else if (chance(20)) addWord();
            else if (!chance(looks)) set();
            else {
                layOut();
                if (chance(70)) look(); else lookAtAll();
            }
        }
    }

    private int aBox() { return chance(2) ? (chance(50) ? -1 : model.boxes.size()) : random.nextInt(model.boxes.size()); }

    private PlainModel.B at(int b) { return b >= 0 && b < model.boxes.size() ? model.boxes.get(b) : null; }

    private void add() {
        int p = chance(style * 10) ? model.boxes.size() - 1 : aBox();
        char kind = chance(2) ? 'x' : one(style == 0 ? "bbtt" : style == 1 ? "bbbtttfg" : style == 2 ? "btffff" : style == 3 ? "btggg" : "bbttfg");
        PlainModel.B parent = at(p);
        Object want = parent == null ? "IndexOutOfBoundsException"
                : "btfg".indexOf(kind) < 0 ? "IllegalArgumentException"
                : model.boxes.size() == 24 ? "IllegalStateException"
                : parent.kind == 't' || parent.level == 7 ? "UnsupportedOperationException" : (Object) model.boxes.size();
        if (want instanceof Integer) {
            PlainModel.B b = new PlainModel.B();
            b.parent = parent;
            b.number = model.boxes.size();
            b.level = parent.level + 1;
            b.kind = kind;
            parent.children.add(b);
            model.boxes.add(b);
            model.changed(b);
        }
        due("add(" + p + ", " + kind + ")", () -> press.add(p, kind), want);
        if (kind == 't' && want instanceof Integer) {
            int words = pick(0, 6);
            for (int i = 0; i < words; i++) addWordTo(model.boxes.size() - 1);
        }
    }

    private void addWord() { addWordTo(aBox()); }

    private void addWordTo(int b) {
        int length = chance(2) ? (chance(50) ? 0 : 61) : chance(60) ? pick(1, 20) : pick(1, 60);
        PlainModel.B box = at(b);
        Object want = box == null ? "IndexOutOfBoundsException"
                : length < 1 || length > 60 ? "IllegalArgumentException"
                : box.kind != 't' ? "UnsupportedOperationException"
                : box.words.size() == 20 ? "IllegalStateException" : (Object) (box.words.size() + 1);
        if (want instanceof Integer) {
            box.words.add(length);
            model.changed(box);
        }
        due("addWord(" + b + ", " + length + ")", () -> press.addWord(b, length), want);
    }

    private void set() {
        int n = aBox();
        PlainModel.B b = at(n);
        if (b == null) {
            due("setClear", () -> press.setClear(n, true), "IndexOutOfBoundsException");
            return;
        }
        switch (random.nextInt(12)) {
            case 0: case 1: {
                int w = chance(45) ? -1 : chance(5) ? pick(0, 400) : pick(0, 70);
                int h = chance(60) ? -1 : chance(25) ? 0 : pick(0, 60);
                int was = b.width;
                b.width = w;
                b.height = h;
                model.changed(b);
                due("setSize " + n + " " + w + " " + h, () -> press.setSize(n, w, h), was);
                return;
            }
            case 2: case 3: {
                int t = pick(-40, 40) / pick(1, 6), o = pick(-40, 40) / pick(1, 6), l = pick(0, 40) / pick(1, 6), r = pick(0, 40) / pick(1, 6);
                int was = b.mt;
                b.mt = t;
                b.mb = o;
                b.ml = l;
                b.mr = r;
                model.changed(b);
                due("setMargins " + n + " " + t + " " + o + " " + l + " " + r, () -> press.setMargins(n, t, o, l, r), was);
                return;
            }
            case 4: {
                int p = pick(0, 20) / pick(1, 6);
                int was = b.padding;
                b.padding = p;
                model.changed(b);
                due("setPadding " + n + " " + p, () -> press.setPadding(n, p), was);
                return;
            }
            case 5: {
                int g = chance(50) ? 0 : pick(0, 9), s = chance(30) ? 0 : pick(0, 9);
                int was = b.grow;
                b.grow = g;
                b.shrink = s;
                model.changed(b);
                due("setFactors " + n + " " + g + " " + s, () -> press.setFactors(n, g, s), was);
                return;
            }
            case 6: {
                int c = pick(1, 4);
                int was = b.columns;
                b.columns = c;
                model.changed(b);
                due("setColumns " + n + " " + c, () -> press.setColumns(n, c), was);
                return;
            }
            case 7: case 8: {
                char side = one("nlrlr");
                char was = b.side;
                b.side = side;
                model.changed(b);
                due("setFloat " + n + " " + side, () -> press.setFloat(n, side), was);
                return;
            }
            case 9: {
                char place = one("ssra");
                int x = pick(-100, 100) / pick(1, 9), y = pick(-100, 100) / pick(1, 9);
                char was = b.place;
                b.place = place;
                b.ox = x;
                b.oy = y;
                model.changed(b);
                due("setPlace " + n + " " + place + " " + x + " " + y, () -> press.setPlace(n, place, x, y), was);
                return;
            }
            case 10: {
                boolean clears = chance(50);
                boolean was = b.clears;
                b.clears = clears;
                model.changed(b);
                due("setClear " + n + " " + clears, () -> press.setClear(n, clears), was);
                if (chance(50)) setQuiet(n, b);
                return;
            }
            default: {
                char alignment = one("lcr");
                char was = b.alignment;
                b.alignment = alignment;
                model.changed(b);
                due("setAlignment " + n + " " + alignment, () -> press.setAlignment(n, alignment), was);
            }
        }
    }

    private void setQuiet(int n, PlainModel.B b) {
        int depth = pick(-5, 5);
        int was = b.depth;
        b.depth = depth;
        due("setDepth " + n + " " + depth, () -> press.setDepth(n, depth), was);
        char kind = one("afv");
        char before = b.breaking;
        b.breaking = kind;
        due("setBreak " + n + " " + kind, () -> press.setBreak(n, kind), before);
    }

    private void layOut() {
        int width = chance(3) ? 401 : chance(60) ? 100 + 20 * style : chance(15) ? pick(0, 400) : pick(0, 120);
        Object want = width > 400 ? "IllegalArgumentException" : (Object) model.layOut(width);
        due("layOut(" + width + ")", () -> press.layOut(width), want);
    }

    private void look() {
        for (int i = 0; i < 6; i++) {
            if (chance(30)) setQuiet(0, model.boxes.get(0));
            lookAt(aBox());
        }
        lookAtWhole();
    }

    private void lookAtAll() {
        lookAtWhole();
        for (int b = model.boxes.size() - 1; b >= 0; b--) lookAt(b);
        lookAtWhole();
    }

    private void lookAt(int n) {
        PlainModel.B b = at(n);
        String none = b == null ? "IndexOutOfBoundsException" : !model.valid ? "IllegalStateException" : null;
        due("xOf " + n, () -> press.xOf(n), none != null ? none : (Object) b.ax);
        due("yOf " + n, () -> press.yOf(n), none != null ? none : (Object) b.ay);
        due("widthOf " + n, () -> press.widthOf(n), none != null ? none : (Object) b.w);
        due("heightOf " + n, () -> press.heightOf(n), none != null ? none : (Object) b.h);
        due("leastWidth " + n, () -> press.leastWidth(n), b == null ? none : (Object) model.minMax(b, false));
        due("greatestWidth " + n, () -> press.greatestWidth(n), b == null ? none : (Object) model.minMax(b, true));
        if (none == null && b.kind != 't') none = "UnsupportedOperationException";
        due("lines " + n, () -> press.lines(n), none != null ? none : (Object) b.lines.size());
        int count = none != null ? 2 : b.lines.size();
        for (int i = -1; i <= count; i++) {
            int line = i;
            boolean is = none == null && line >= 0 && line < count;
            String not = none != null ? none : "NoSuchElementException";
            due("lineX " + n + " " + line, () -> press.lineX(n, line), is ? (Object) b.lines.get(line)[0] : not);
            due("lineY " + n + " " + line, () -> press.lineY(n, line), is ? (Object) b.lines.get(line)[1] : not);
            due("wordsIn " + n + " " + line, () -> press.wordsIn(n, line), is ? (Object) b.lines.get(line)[2] : not);
        }
    }

    private void lookAtWhole() {
        due("isConsistent", press::isConsistent, true);
        due("contexts", press::contexts, model.total);
        if (!model.valid) {
            due("area", press::area, "IllegalStateException");
            return;
        }
        long area = 0;
        int letters = 0, words = 0, lines = 0;
        for (PlainModel.B b : model.boxes) {
            area += (long) b.w * b.h;
            for (int length : b.words) letters += length;
            words += b.words.size();
            if (b.kind == 't') lines += b.lines.size();
        }
        PlainModel.B root = model.boxes.get(0);
        due("area", press::area, area);
        due("filled", press::filled, root.w * root.h == 0 ? "ArithmeticException" : (Object) ((float) (letters * 10) / (float) (root.w * root.h)));
        due("meanLine", press::meanLine, lines == 0 ? "ArithmeticException" : (Object) ((double) words / (double) lines));
        int x = pick(-30, 150), y = pick(-30, 150);
        int hit = model.hit(x, y);
        due("hit " + x + " " + y, () -> press.hit(x, y), hit < 0 ? "NoSuchElementException" : (Object) hit);
        int height = chance(70) ? pick(10, 60) : chance(5) ? 9 : pick(10, 400);
        if (height < 10) {
            due("pages(9)", () -> press.pages(height), "IllegalArgumentException");
            return;
        }
        List<PlainModel.Unit> units = model.paginate(height);
        due("pages " + height, () -> press.pages(height), units.isEmpty() ? 0 : units.get(units.size() - 1).page + 1);
        for (PlainModel.Unit u : units) {
            if (!chance(40)) continue;
            int line = u.line < 0 ? pick(-3, 3) : u.line;
            due("pageOf " + height + " " + u.box.number + " " + line, () -> press.pageOf(height, u.box.number, line), u.page);
        }
        int n = random.nextInt(model.boxes.size());
        int line = pick(-1, 8);
        Object want = "NoSuchElementException";
        for (PlainModel.Unit u : units) {
            if (u.box.number == n && (u.line < 0 || u.line == line)) want = u.page;
        }
        Object due = want;
        due("pageOf " + height + " " + n + " " + line, () -> press.pageOf(height, n, line), due);
    }
}
