import java.util.Arrays;
import java.util.NoSuchElementException;

/** A layout engine in whole units: boxes in a tree, their layout, and the pages behind it. */
public final class ColumnarPress {
    private static final int MOST_BOXES = 24;
    private static final int MOST_WORDS = 20;
    private static final int MOST_COLUMNS = 4;
    private static final int DEEPEST_LEVEL = 7;
    private static final int OPEN = -1;
    private static final int NONE = -1;
    private static final int ROOT = 0;
    private static final int LINE_HEIGHT = 10;
    private static final int WORD_GAP = 2;
    /** Stand for the end of nothing: whatever they are compared with is lower down, or higher up. */
    private static final int FAR_ABOVE = -1000000000;
    private static final int FAR_BELOW = 1000000000;

    private final Tree tree;
    private final Layout kept;
    private final Layout fresh;
    private final Pager pager;
    private boolean ready;
    private int laidWidth;
    private int counted;

    public ColumnarPress() {
        tree = new Tree();
        kept = new Layout(tree);
        fresh = new Layout(tree);
        pager = new Pager(tree, kept);
    }

    // ---- boxes

    public int add(int parent, char kind)
            throws IndexOutOfBoundsException, IllegalArgumentException, IllegalStateException, UnsupportedOperationException {
        needBox(parent);
        need(kind == 'b' || kind == 't' || kind == 'f' || kind == 'g');
        if (tree.count >= MOST_BOXES) {
            throw new IllegalStateException("there are 24 boxes");
        }
        Box above = tree.at(parent);
        if (above.kind == 't' || above.level >= DEEPEST_LEVEL) {
            throw new UnsupportedOperationException("no box can be inside this one");
        }
        int box = tree.grow(parent, kind);
        kept.grow(kind);
        fresh.grow(kind);
        touch(box);
        return box;
    }

    public int addWord(int box, int length)
            throws IndexOutOfBoundsException, IllegalArgumentException, UnsupportedOperationException, IllegalStateException {
        needBox(box);
        need(isBetween(length, 1, 60));
        Box changed = tree.at(box);
        if (changed.kind != 't') {
            throw new UnsupportedOperationException("this is no text");
        }
        if (changed.wordCount >= MOST_WORDS) {
            throw new IllegalStateException("the text has 20 words");
        }
        changed.appendWord(length);
        touch(box);
        return changed.wordCount;
    }

    public int setSize(int box, int width, int height) throws IndexOutOfBoundsException, IllegalArgumentException {
        needBox(box);
        need(isBetween(width, OPEN, 400) && isBetween(height, OPEN, 400));
        Box changed = tree.at(box);
        int before = changed.width;
        changed.width = width;
        changed.height = height;
        touch(box);
        return before;
    }

    public int setMargins(int box, int top, int bottom, int left, int right)
            throws IndexOutOfBoundsException, IllegalArgumentException {
        needBox(box);
        need(isBetween(top, -40, 40) && isBetween(bottom, -40, 40));
        need(isBetween(left, 0, 40) && isBetween(right, 0, 40));
        Margins changed = tree.at(box).margins;
        int before = changed.top;
        changed.top = top;
        changed.bottom = bottom;
        changed.left = left;
        changed.right = right;
        touch(box);
        return before;
    }

    public int setPadding(int box, int padding) throws IndexOutOfBoundsException, IllegalArgumentException {
        needBox(box);
        need(isBetween(padding, 0, 20));
        Box changed = tree.at(box);
        int before = changed.padding;
        changed.padding = padding;
        touch(box);
        return before;
    }

    public int setFactors(int box, int grow, int shrink) throws IndexOutOfBoundsException, IllegalArgumentException {
        needBox(box);
        need(isBetween(grow, 0, 9) && isBetween(shrink, 0, 9));
        Box changed = tree.at(box);
        int before = changed.grow;
        changed.grow = grow;
        changed.shrink = shrink;
        touch(box);
        return before;
    }

    public int setColumns(int box, int columns) throws IndexOutOfBoundsException, IllegalArgumentException {
        needBox(box);
        need(isBetween(columns, 1, MOST_COLUMNS));
        Box changed = tree.at(box);
        int before = changed.columns;
        changed.columns = columns;
        touch(box);
        return before;
    }

    public char setFloat(int box, char side) throws IndexOutOfBoundsException, IllegalArgumentException {
        needBox(box);
        need(side == 'n' || side == 'l' || side == 'r');
        Box changed = tree.at(box);
        char before = changed.side;
        changed.side = side;
        touch(box);
        return before;
    }

    public char setPlace(int box, char place, int x, int y) throws IndexOutOfBoundsException, IllegalArgumentException {
        needBox(box);
        need(place == 's' || place == 'r' || place == 'a');
        need(isBetween(x, -100, 100) && isBetween(y, -100, 100));
        Box changed = tree.at(box);
        char before = changed.place;
        changed.place = place;
        changed.offsetX = x;
        changed.offsetY = y;
        touch(box);
        return before;
    }

    public int setDepth(int box, int depth) throws IndexOutOfBoundsException, IllegalArgumentException {
        needBox(box);
        need(isBetween(depth, -5, 5));
        Box changed = tree.at(box);
        int before = changed.depth;
        changed.depth = depth;
        return before;
    }

    public boolean setClear(int box, boolean clears) throws IndexOutOfBoundsException {
        needBox(box);
        Box changed = tree.at(box);
        boolean before = changed.clears;
        changed.clears = clears;
        touch(box);
        return before;
    }

    public char setBreak(int box, char kind) throws IndexOutOfBoundsException, IllegalArgumentException {
        needBox(box);
        need(kind == 'a' || kind == 'f' || kind == 'v');
        Box changed = tree.at(box);
        char before = changed.breaking;
        changed.breaking = kind;
        return before;
    }

    public char setAlignment(int box, char alignment) throws IndexOutOfBoundsException, IllegalArgumentException {
        needBox(box);
        need(alignment == 'l' || alignment == 'c' || alignment == 'r');
        Box changed = tree.at(box);
        char before = changed.alignment;
        changed.alignment = alignment;
        touch(box);
        return before;
    }

    // ---- layout

    public int layOut(int width) throws IllegalArgumentException {
        need(isBetween(width, 0, 400));
        int anew = kept.run(width);
        counted += anew;
        laidWidth = width;
        ready = true;
        return anew;
    }

    public int xOf(int box) throws IndexOutOfBoundsException, IllegalStateException {
        return readySpot(box).left;
    }

    public int yOf(int box) throws IndexOutOfBoundsException, IllegalStateException {
        return readySpot(box).top;
    }

    public int widthOf(int box) throws IndexOutOfBoundsException, IllegalStateException {
        return readySpot(box).width;
    }

    public int heightOf(int box) throws IndexOutOfBoundsException, IllegalStateException {
        return readySpot(box).height;
    }

    public int lines(int box) throws IndexOutOfBoundsException, IllegalStateException, UnsupportedOperationException {
        return readyText(box).count;
    }

    public int wordsIn(int box, int line)
            throws IndexOutOfBoundsException, IllegalStateException, UnsupportedOperationException, NoSuchElementException {
        Lines text = readyText(box);
        needLine(text, line);
        return text.words[line];
    }

    public int lineX(int box, int line)
            throws IndexOutOfBoundsException, IllegalStateException, UnsupportedOperationException, NoSuchElementException {
        Lines text = readyText(box);
        needLine(text, line);
        return text.x[line];
    }

    public int lineY(int box, int line)
            throws IndexOutOfBoundsException, IllegalStateException, UnsupportedOperationException, NoSuchElementException {
        Lines text = readyText(box);
        needLine(text, line);
        return text.y[line];
    }

    public int leastWidth(int box) throws IndexOutOfBoundsException {
        needBox(box);
        kept.widths.measure();
        return kept.widths.least[box];
    }

    public int greatestWidth(int box) throws IndexOutOfBoundsException {
        needBox(box);
        kept.widths.measure();
        return kept.widths.greatest[box];
    }

    public int hit(int x, int y) throws IllegalStateException, NoSuchElementException {
        needReady();
        int found = kept.paintedLast(x, y);
        if (found == NONE) {
            throw new NoSuchElementException("no box has this point");
        }
        return found;
    }

    public int pages(int height) throws IllegalArgumentException, IllegalStateException {
        need(isBetween(height, 10, 400));
        needReady();
        pager.run(height, NONE, NONE);
        return pager.page + 1;
    }

    public int pageOf(int height, int box, int line)
            throws IllegalArgumentException, IndexOutOfBoundsException, IllegalStateException, NoSuchElementException {
        need(isBetween(height, 10, 400));
        needBox(box);
        needReady();
        pager.run(height, box, line);
        if (pager.answer == NONE) {
            throw new NoSuchElementException("there is no such unit");
        }
        return pager.answer;
    }

    public int contexts() {
        return counted;
    }

    public long area() throws IllegalStateException {
        needReady();
        long sum = 0;
        for (int b = 0; b < tree.count; b++) {
            Spot spot = kept.spotOf(b);
            sum += (long) spot.width * spot.height;
        }
        return sum;
    }

    public float filled() throws IllegalStateException, ArithmeticException {
        needReady();
        int whole = kept.spotOf(ROOT).width * kept.spotOf(ROOT).height;
        if (whole == 0) {
            throw new ArithmeticException("the root has no area");
        }
        int length = 0;
        for (int b = 0; b < tree.count; b++) {
            length += tree.at(b).lengthOfWords();
        }
        return (float) (length * 10) / (float) whole;
    }

    public double meanLine() throws IllegalStateException, ArithmeticException {
        needReady();
        int words = 0;
        int rows = 0;
        for (int b = 0; b < tree.count; b++) {
            words += tree.at(b).wordCount;
            rows += kept.spotOf(b).text.count;
        }
        if (rows == 0) {
            throw new ArithmeticException("there are no lines");
        }
        return (double) words / (double) rows;
    }

    public boolean isConsistent() {
        if (!ready) {
            return true;
        }
        fresh.forget();
        fresh.run(laidWidth);
        return kept.isLike(fresh) && kept.hasAllWords();
    }

    // ---- what the calls need

    private static boolean isBetween(int number, int least, int greatest) {
        return number >= least && number <= greatest;
    }

    private static void need(boolean holds) {
        if (!holds) {
            throw new IllegalArgumentException("out of range, or no such kind");
        }
    }

    private void needBox(int box) {
        if (!tree.holds(box)) {
            throw new IndexOutOfBoundsException("there is no such box");
        }
    }

    private void needReady() {
        if (!ready) {
            throw new IllegalStateException("nothing was laid out, or something was changed since");
        }
    }

    private static void needLine(Lines text, int line) {
        if (line < 0 || line >= text.count) {
            throw new NoSuchElementException("there is no such line");
        }
    }

    private Spot readySpot(int box) {
        needBox(box);
        needReady();
        return kept.spotOf(box);
    }

    private Lines readyText(int box) {
        Spot spot = readySpot(box);
        if (tree.at(box).kind != 't') {
            throw new UnsupportedOperationException("this is no text");
        }
        return spot.text;
    }

    private void touch(int box) {
        ready = false;
        kept.touch(box);
    }

    // ---- the tree

    /** The four margins of a box. */
    private static final class Margins {
        int top;
        int bottom;
        int left;
        int right;

        /** The upper margin where none less than 0 counts. */
        int above() {
            return Math.max(0, top);
        }

        /** The lower margin where none less than 0 counts. */
        int below() {
            return Math.max(0, bottom);
        }

        int beside() {
            return left + right;
        }
    }

    /** What was set of a box. */
    private static final class Box {
        final int parent;
        final int level;
        final char kind;
        /** The lengths of its words; a box that is no text has room for none. */
        final int[] words;
        int wordCount;
        final Margins margins = new Margins();
        int width = OPEN;
        int height = OPEN;
        int padding;
        int grow;
        int shrink = 1;
        int columns = 1;
        char side = 'n';
        char place = 's';
        int offsetX;
        int offsetY;
        int depth;
        boolean clears;
        char breaking = 'a';
        char alignment = 'l';

        Box(int parent, int level, char kind) {
            this.parent = parent;
            this.level = level;
            this.kind = kind;
            words = new int[kind == 't' ? MOST_WORDS : 0];
        }

        void appendWord(int length) {
            if (wordCount < words.length) {
                words[wordCount] = length;
                wordCount++;
            }
        }

        int lengthOfWords() {
            int sum = 0;
            for (int i = 0; i < wordCount; i++) {
                sum += words[i];
            }
            return sum;
        }

        int longestWord() {
            int most = 0;
            for (int i = 0; i < wordCount; i++) {
                most = Math.max(most, words[i]);
            }
            return most;
        }

        int lengthInOneLine() {
            return lengthOfWords() + WORD_GAP * Math.max(0, wordCount - 1);
        }

        boolean isRowOrGrid() {
            return kind == 'f' || kind == 'g';
        }

        /** The place of the root, which has no parent, means nothing. */
        boolean isLifted() {
            return place == 'a' && parent != NONE;
        }

        boolean isShifted() {
            return place == 'r' && parent != NONE;
        }
    }

    /** The boxes; each has a greater number than the box that it is inside. */
    private static final class Tree {
        private final Box[] boxes = new Box[MOST_BOXES];
        int count;

        Tree() {
            boxes[ROOT] = new Box(NONE, 0, 'b');
            count = 1;
        }

        boolean holds(int b) {
            return b >= 0 && b < count;
        }

        /** A number that is none of a box stands for the root here, so that no caller gets null. */
        Box at(int b) {
            return b >= 0 && b < count ? boxes[b] : boxes[ROOT];
        }

        int grow(int parent, char kind) {
            int b = count;
            if (b < MOST_BOXES) {
                boxes[b] = new Box(parent, at(parent).level + 1, kind);
                count++;
            }
            return b;
        }

        boolean isLifted(int b) {
            return at(b).isLifted();
        }

        boolean isShifted(int b) {
            return at(b).isShifted();
        }

        boolean isFloat(int b) {
            return b != ROOT && at(b).side != 'n' && !isLifted(b) && !at(at(b).parent).isRowOrGrid();
        }

        /** Whether a box is a child that takes room in its parent: one that is not lifted out. */
        boolean isHeld(int b, int parent) {
            Box box = at(b);
            return box.parent == parent && !box.isLifted();
        }

        boolean hasChildren(int b) {
            for (int c = b + 1; c < count; c++) {
                if (at(c).parent == b) {
                    return true;
                }
            }
            return false;
        }

        /** The box from whose corner a box that is lifted out is placed. */
        int frameOf(int b) {
            int around = at(b).parent;
            while (around > ROOT && !isLifted(around) && !isShifted(around)) {
                around = at(around).parent;
            }
            return Math.max(ROOT, around);
        }

        /** The first item of the next row of a grid, or the number behind all boxes. */
        int behindRow(int grid, int first) {
            int left = at(grid).columns;
            for (int c = first; c < count; c++) {
                if (isHeld(c, grid)) {
                    if (left <= 0) {
                        return c;
                    }
                    left--;
                }
            }
            return count;
        }
    }

    /** The least and the greatest widths of all boxes. */
    private static final class Widths {
        private final Tree tree;
        final int[] least = new int[MOST_BOXES];
        final int[] greatest = new int[MOST_BOXES];
        private final int[] columns = new int[MOST_COLUMNS];

        Widths(Tree tree) {
            this.tree = tree;
        }

        /** Goes from the last box up, since those inside a box have greater numbers. */
        void measure() {
            for (int b = tree.count - 1; b >= 0; b--) {
                measureOne(b);
            }
        }

        private void measureOne(int b) {
            Box box = tree.at(b);
            if (b != ROOT && box.width != OPEN) {
                least[b] = box.width;
                greatest[b] = box.width;
                return;
            }
            int twice = 2 * box.padding;
            if (box.kind == 't') {
                least[b] = twice + box.longestWord();
                greatest[b] = twice + box.lengthInOneLine();
            } else if (box.kind == 'g') {
                least[b] = twice + sumOfColumns(b, least);
                greatest[b] = twice + sumOfColumns(b, greatest);
            } else {
                boolean inRow = box.kind == 'f';
                least[b] = twice + ofChildren(b, least, inRow);
                greatest[b] = twice + ofChildren(b, greatest, inRow);
            }
        }

        private int ofChildren(int b, int[] widths, boolean inRow) {
            int sum = 0;
            int most = 0;
            for (int c = b + 1; c < tree.count; c++) {
                if (tree.isHeld(c, b)) {
                    int width = widths[c] + tree.at(c).margins.beside();
                    sum += width;
                    most = Math.max(most, width);
                }
            }
            return inRow ? sum : most;
        }

        private int sumOfColumns(int grid, int[] widths) {
            fillColumns(grid, widths, columns);
            int sum = 0;
            for (int width : columns) {
                sum += width;
            }
            return sum;
        }

        /** Puts the greatest width of the items of each column, with their margins, into a row of columns. */
        void fillColumns(int grid, int[] widths, int[] into) {
            Arrays.fill(into, 0);
            int column = 0;
            for (int c = grid + 1; c < tree.count; c++) {
                if (tree.isHeld(c, grid) && column < into.length) {
                    into[column] = Math.max(into[column], widths[c] + tree.at(c).margins.beside());
                    column++;
                    if (column >= tree.at(grid).columns) {
                        column = 0;
                    }
                }
            }
        }

        /** The told width, or else the greatest one, but at most the given one, and then at least the least. */
        int fitting(int b, int given) {
            Box box = tree.at(b);
            return box.width != OPEN ? box.width : Math.max(least[b], Math.min(greatest[b], given));
        }
    }

    // ---- the layout

    /** The lines of a text: places from the corner of its box on. */
    private static final class Lines {
        final int[] x;
        final int[] y;
        final int[] words;
        int count;

        Lines(boolean isText) {
            int most = isText ? MOST_WORDS : 0;
            x = new int[most];
            y = new int[most];
            words = new int[most];
        }

        void append(int left, int top, int taken) {
            if (count < words.length) {
                x[count] = left;
                y[count] = top;
                words[count] = taken;
                count++;
            }
        }

        boolean isLike(Lines other) {
            if (count != other.count) {
                return false;
            }
            for (int i = 0; i < count; i++) {
                if (x[i] != other.x[i] || y[i] != other.y[i] || words[i] != other.words[i]) {
                    return false;
                }
            }
            return true;
        }

        int wordsOfAll() {
            int sum = 0;
            for (int i = 0; i < count; i++) {
                sum += words[i];
            }
            return sum;
        }
    }

    /** Where a box is, and how great. */
    private static final class Spot {
        /** From the corner of the parent on, without shifts. */
        int x;
        int y;
        /** From the corner of the root on, with all shifts. */
        int left;
        int top;
        int width;
        int height;
        /** The height of a context before a row or a grid makes it higher. */
        int natural;
        /** The width for which a context was laid out last. */
        int laidFor;
        boolean isKept;
        final Lines text;

        Spot(boolean isText) {
            text = new Lines(isText);
        }

        boolean isLike(Spot other) {
            return left == other.left && top == other.top && width == other.width && height == other.height
                    && text.isLike(other.text);
        }
    }

    /** The floats that were placed in a context, with their margins, from the corner of the context on. */
    private static final class Floats {
        private final int[] left = new int[MOST_BOXES];
        private final int[] right = new int[MOST_BOXES];
        private final int[] top = new int[MOST_BOXES];
        /** The lower end, taken at least 1 high. */
        private final int[] bottom = new int[MOST_BOXES];
        private final boolean[] isLeft = new boolean[MOST_BOXES];
        private int count;
        /** The lower end of all, as high as they are. */
        int end;
        /** The upper end of the one that was placed last. */
        int lastTop;
        /** What the last search found. */
        int leftEdge;
        int rightEdge;
        private int leastEnd;
        private boolean someLie;

        void clear() {
            count = 0;
            end = FAR_ABOVE;
            lastTop = FAR_ABOVE;
        }

        void append(int from, int to, int upper, int high, boolean atLeft) {
            if (count < MOST_BOXES) {
                left[count] = from;
                right[count] = to;
                top[count] = upper;
                bottom[count] = upper + Math.max(1, high);
                isLeft[count] = atLeft;
                count++;
            }
            end = Math.max(end, upper + high);
            lastTop = upper;
        }

        /** Finds the upper end, from one on, where so much fits between the edges, or no float lies. */
        int search(int from, int high, int innerLeft, int innerRight, int needed) {
            int upper = from;
            // each further round leaves at least one float behind
            for (int round = 0; round <= count; round++) {
                findEdges(upper, upper + Math.max(1, high), innerLeft, innerRight);
                if (!someLie || needed <= rightEdge - leftEdge) {
                    return upper;
                }
                upper = leastEnd;
            }
            return upper;
        }

        private void findEdges(int upper, int lower, int innerLeft, int innerRight) {
            leftEdge = innerLeft;
            rightEdge = innerRight;
            someLie = false;
            leastEnd = FAR_BELOW;
            for (int i = 0; i < count; i++) {
                if (top[i] < lower && upper < bottom[i]) {
                    someLie = true;
                    leastEnd = Math.min(leastEnd, bottom[i]);
                    if (isLeft[i]) {
                        leftEdge = Math.max(leftEdge, right[i]);
                    } else {
                        rightEdge = Math.min(rightEdge, left[i]);
                    }
                }
            }
        }
    }

    /** The flow of a block, in places from the corner of its context on. */
    private static final class Flow {
        /** The corner of the block. */
        int x;
        int y;
        int innerLeft;
        int innerWidth;
        private int upperEnd;
        private int place;
        private int greatest;
        private int least;

        void begin(int blockX, int blockY, int padding, int width) {
            x = blockX;
            y = blockY;
            innerLeft = blockX + padding;
            innerWidth = width;
            upperEnd = blockY + padding;
            place = upperEnd;
            greatest = 0;
            least = 0;
        }

        void takeMargin(int margin) {
            greatest = Math.max(greatest, margin);
            least = Math.min(least, margin);
        }

        int edge() {
            return place + greatest + least;
        }

        void goTo(int lowerEnd, int margin) {
            place = lowerEnd;
            greatest = Math.max(0, margin);
            least = Math.min(0, margin);
        }

        int endOfContents() {
            return Math.max(upperEnd, edge());
        }
    }

    /** The widths of the items of one row. */
    private static final class Shares {
        private final int[] item = new int[MOST_BOXES];
        private final int[] basis = new int[MOST_BOXES];
        private final int[] bound = new int[MOST_BOXES];
        private final int[] grow = new int[MOST_BOXES];
        private final int[] weight = new int[MOST_BOXES];
        private final int[] size = new int[MOST_BOXES];
        private final boolean[] isFrozen = new boolean[MOST_BOXES];
        private int count;

        void clear() {
            count = 0;
        }

        void append(int b, int width, int leastWidth, Box box) {
            if (count < MOST_BOXES) {
                item[count] = b;
                basis[count] = width;
                bound[count] = Math.min(leastWidth, width);
                grow[count] = box.grow;
                weight[count] = box.shrink * width;
                size[count] = width;
                isFrozen[count] = false;
                count++;
            }
        }

        void growBy(int free) {
            int sum = 0;
            for (int i = 0; i < count; i++) {
                sum += grow[i];
            }
            if (sum <= 0) {
                return;
            }
            int left = free;
            for (int i = 0; i < count; i++) {
                int part = (int) ((long) free * grow[i] / sum);
                size[i] += part;
                left -= part;
            }
            for (int i = 0; i < count && left > 0; i++) {
                if (grow[i] > 0) {
                    size[i]++;
                    left--;
                }
            }
        }

        void shrinkBy(int lacking) {
            int left = lacking;
            // each further round has one more item frozen
            for (int round = 0; round <= count; round++) {
                long sum = sumOfWeights();
                if (sum <= 0) {
                    return;
                }
                int saved = freeze(left, sum);
                if (saved == NONE) {
                    lose(left, sum);
                    return;
                }
                left -= saved;
            }
        }

        private long sumOfWeights() {
            long sum = 0;
            for (int i = 0; i < count; i++) {
                if (!isFrozen[i]) {
                    sum += weight[i];
                }
            }
            return sum;
        }

        /** Freezes what would be too small; what that saves, or NONE if nothing was frozen. */
        private int freeze(int lacking, long sum) {
            int saved = 0;
            boolean some = false;
            for (int i = 0; i < count; i++) {
                if (!isFrozen[i] && basis[i] - loss(i, lacking, sum) < bound[i]) {
                    isFrozen[i] = true;
                    size[i] = bound[i];
                    saved += basis[i] - bound[i];
                    some = true;
                }
            }
            return some ? saved : NONE;
        }

        private void lose(int lacking, long sum) {
            int left = lacking;
            for (int i = 0; i < count; i++) {
                if (!isFrozen[i]) {
                    int part = loss(i, lacking, sum);
                    size[i] = basis[i] - part;
                    left -= part;
                }
            }
            for (int i = 0; i < count && left > 0; i++) {
                if (!isFrozen[i] && weight[i] > 0 && size[i] > bound[i]) {
                    size[i]--;
                    left--;
                }
            }
        }

        private int loss(int i, int lacking, long sum) {
            return sum > 0 ? (int) ((long) lacking * weight[i] / sum) : 0;
        }
    }

    /** A layout of the tree, which keeps the contexts that no change has reached. */
    private static final class Layout {
        private final Tree tree;
        final Widths widths;
        private final Spot[] spots = new Spot[MOST_BOXES];
        /** One for each level: contexts and blocks that are open at once are at different ones. */
        private final Floats[] floatsAt = new Floats[DEEPEST_LEVEL + 1];
        private final Flow[] flowAt = new Flow[DEEPEST_LEVEL + 1];
        private final Shares shares = new Shares();
        private final int[] columns = new int[MOST_COLUMNS];
        private int spotCount;
        private int anew;

        Layout(Tree tree) {
            this.tree = tree;
            widths = new Widths(tree);
            for (int level = 0; level <= DEEPEST_LEVEL; level++) {
                floatsAt[level] = new Floats();
                flowAt[level] = new Flow();
            }
            spots[ROOT] = new Spot(false);
            spotCount = 1;
        }

        void grow(char kind) {
            if (spotCount < MOST_BOXES) {
                spots[spotCount] = new Spot(kind == 't');
                spotCount++;
            }
        }

        /** As in the tree, no caller gets null. */
        Spot spotOf(int b) {
            return b >= 0 && b < spotCount ? spots[b] : spots[ROOT];
        }

        /** Gives up what was kept of a box and of all boxes around it. */
        void touch(int b) {
            for (int around = b; around >= 0; around = tree.at(around).parent) {
                spotOf(around).isKept = false;
            }
        }

        void forget() {
            for (int b = 0; b < spotCount; b++) {
                spotOf(b).isKept = false;
            }
        }

        /** Lays all boxes out; how many contexts were laid out anew. */
        int run(int width) {
            anew = 0;
            widths.measure();
            layContext(ROOT, width);
            // a box has its width before those that are lifted out of it, for their numbers are greater
            for (int b = 1; b < tree.count; b++) {
                if (tree.isLifted(b)) {
                    int given = spotOf(tree.frameOf(b)).width - tree.at(b).offsetX;
                    layContext(b, widths.fitting(b, given));
                }
            }
            findCorners();
            return anew;
        }

        private void findCorners() {
            for (int b = 1; b < tree.count; b++) {
                Box box = tree.at(b);
                Spot spot = spotOf(b);
                boolean lifted = tree.isLifted(b);
                boolean moved = lifted || tree.isShifted(b);
                Spot from = spotOf(lifted ? tree.frameOf(b) : box.parent);
                spot.left = from.left + (lifted ? 0 : spot.x) + (moved ? box.offsetX : 0);
                spot.top = from.top + (lifted ? 0 : spot.y) + (moved ? box.offsetY : 0);
            }
        }

        private int innerWidth(int b) {
            return Math.max(0, spotOf(b).width - 2 * tree.at(b).padding);
        }

        private void layContext(int b, int width) {
            Spot spot = spotOf(b);
            spot.width = width;
            if (!spot.isKept || spot.laidFor != width) {
                spot.natural = layInside(b);
                spot.laidFor = width;
                spot.isKept = true;
                anew++;
            }
            spot.height = spot.natural;
        }

        private int layInside(int b) {
            Box box = tree.at(b);
            int high;
            if (box.kind == 'f') {
                high = layRow(b);
            } else if (box.kind == 'g') {
                high = layGrid(b);
            } else {
                Floats floats = floatsAt[box.level];
                floats.clear();
                high = layContents(b, floats, 0, 0);
                high = Math.max(high, floats.end + box.padding);
            }
            return box.height != OPEN ? box.height : high;
        }

        /** Lays a block or a text out, at a place in its context; how high it is if its height is open. */
        private int layContents(int b, Floats floats, int x, int y) {
            return tree.at(b).kind == 't' ? layText(b, floats, x, y) : layBlock(b, floats, x, y);
        }

        private int layBlock(int b, Floats floats, int x, int y) {
            Box box = tree.at(b);
            Flow flow = flowAt[box.level];
            flow.begin(x, y, box.padding, innerWidth(b));
            for (int c = b + 1; c < tree.count; c++) {
                if (tree.isHeld(c, b)) {
                    if (tree.isFloat(c)) {
                        placeFloat(c, flow, floats);
                    } else {
                        placeInFlow(c, flow, floats);
                    }
                }
            }
            return flow.endOfContents() - y + box.padding;
        }

        private void placeInFlow(int c, Flow flow, Floats floats) {
            Box box = tree.at(c);
            Spot spot = spotOf(c);
            flow.takeMargin(box.margins.top);
            int top = flow.edge();
            if (box.clears || box.isRowOrGrid()) {
                top = Math.max(top, floats.end);
            }
            int left = flow.innerLeft + box.margins.left;
            int given = flow.innerWidth - box.margins.beside();
            spot.width = box.width != OPEN ? box.width : Math.max(2 * box.padding, given);
            spot.x = left - flow.x;
            spot.y = top - flow.y;
            if (box.isRowOrGrid()) {
                layContext(c, spot.width);
            } else {
                int high = layContents(c, floats, left, top);
                spot.height = box.height != OPEN ? box.height : high;
            }
            if (spot.height == 0) {
                flow.takeMargin(box.margins.bottom);
            } else {
                flow.goTo(top + spot.height, box.margins.bottom);
            }
        }

        private void placeFloat(int c, Flow flow, Floats floats) {
            Box box = tree.at(c);
            Spot spot = spotOf(c);
            layContext(c, widths.fitting(c, flow.innerWidth - box.margins.beside()));
            int high = box.margins.above() + spot.height + box.margins.below();
            int wide = spot.width + box.margins.beside();
            int innerRight = flow.innerLeft + flow.innerWidth;
            int from = Math.max(flow.edge(), floats.lastTop);
            int top = floats.search(from, high, flow.innerLeft, innerRight, wide);
            boolean atLeft = box.side == 'l';
            int left = atLeft ? floats.leftEdge : floats.rightEdge - wide;
            floats.append(left, left + wide, top, high, atLeft);
            spot.x = left + box.margins.left - flow.x;
            spot.y = top + box.margins.above() - flow.y;
        }

        private int layText(int b, Floats floats, int x, int y) {
            Box box = tree.at(b);
            int[] words = box.words;
            Lines text = spotOf(b).text;
            text.count = 0;
            int left = x + box.padding;
            int right = left + innerWidth(b);
            int top = y + box.padding;
            int next = 0;
            for (int line = 0; line < MOST_WORDS && next < box.wordCount; line++) {
                top = floats.search(top, LINE_HEIGHT, left, right, words[next]);
                int between = floats.rightEdge - floats.leftEdge;
                int length = words[next];
                int behind = next + 1;
                while (behind < box.wordCount && length + WORD_GAP + words[behind] <= between) {
                    length += WORD_GAP + words[behind];
                    behind++;
                }
                text.append(floats.leftEdge - x + ahead(box.alignment, between - length), top - y, behind - next);
                next = behind;
                top += LINE_HEIGHT;
            }
            return top - y + box.padding;
        }

        private static int ahead(char alignment, int over) {
            if (over <= 0 || alignment == 'l') {
                return 0;
            }
            return alignment == 'c' ? over >> 1 : over;
        }

        private int layRow(int b) {
            Box box = tree.at(b);
            shareWidths(b);
            int left = box.padding;
            for (int c = b + 1; c < tree.count; c++) {
                if (tree.isHeld(c, b)) {
                    Margins margins = tree.at(c).margins;
                    spotOf(c).x = left + margins.left;
                    layContext(c, spotOf(c).width);
                    left += spotOf(c).width + margins.beside();
                }
            }
            int high = highest(b, b + 1, tree.count);
            stretch(b, b + 1, tree.count, box.padding, high);
            return high + 2 * box.padding;
        }

        /** Gives all items their widths before one is laid out, since rows inside them share anew. */
        private void shareWidths(int b) {
            shares.clear();
            int free = innerWidth(b);
            for (int c = b + 1; c < tree.count; c++) {
                if (tree.isHeld(c, b)) {
                    int basis = widths.greatest[c];
                    shares.append(c, basis, widths.least[c], tree.at(c));
                    free -= basis + tree.at(c).margins.beside();
                }
            }
            if (free > 0) {
                shares.growBy(free);
            } else if (free < 0) {
                shares.shrinkBy(-free);
            }
            for (int i = 0; i < shares.count; i++) {
                spotOf(shares.item[i]).width = shares.size[i];
            }
        }

        private int layGrid(int b) {
            Box box = tree.at(b);
            placeInColumns(b);
            for (int c = b + 1; c < tree.count; c++) {
                if (tree.isHeld(c, b)) {
                    layContext(c, spotOf(c).width);
                }
            }
            int top = box.padding;
            int first = b + 1;
            for (int row = 0; row < MOST_BOXES && first < tree.count; row++) {
                int behind = tree.behindRow(b, first);
                int high = highest(b, first, behind);
                stretch(b, first, behind, top, high);
                top += high;
                first = behind;
            }
            return top + box.padding;
        }

        /** Gives all items their widths and left ends before one is laid out, since grids inside them do so, too. */
        private void placeInColumns(int b) {
            Box grid = tree.at(b);
            widths.fillColumns(b, widths.least, columns);
            widenColumns(innerWidth(b), grid.columns);
            int column = 0;
            int left = grid.padding;
            for (int c = b + 1; c < tree.count; c++) {
                if (tree.isHeld(c, b) && column < MOST_COLUMNS) {
                    Box box = tree.at(c);
                    int given = columns[column] - box.margins.beside();
                    spotOf(c).width = box.width != OPEN ? box.width : Math.max(2 * box.padding, given);
                    spotOf(c).x = left + box.margins.left;
                    left += columns[column];
                    column++;
                    if (column >= grid.columns) {
                        column = 0;
                        left = grid.padding;
                    }
                }
            }
        }

        private void widenColumns(int inner, int used) {
            int free = inner;
            for (int width : columns) {
                free -= width;
            }
            if (free <= 0 || used <= 0) {
                return;
            }
            int part = free / used;
            int over = free - part * used;
            for (int i = 0; i < used && i < MOST_COLUMNS; i++) {
                columns[i] += part + (i < over ? 1 : 0);
            }
        }

        /** The greatest height, with margins, of the items of a box from one number up to another. */
        private int highest(int b, int from, int to) {
            int most = 0;
            for (int c = from; c < to; c++) {
                if (tree.isHeld(c, b)) {
                    Margins margins = tree.at(c).margins;
                    most = Math.max(most, margins.above() + spotOf(c).height + margins.below());
                }
            }
            return most;
        }

        private void stretch(int b, int from, int to, int top, int high) {
            for (int c = from; c < to; c++) {
                if (tree.isHeld(c, b)) {
                    Box box = tree.at(c);
                    spotOf(c).y = top + box.margins.above();
                    if (box.height == OPEN) {
                        int room = high - box.margins.above() - box.margins.below();
                        spotOf(c).height = Math.max(spotOf(c).height, room);
                    }
                }
            }
        }

        /** The box that is painted last of those that have a point, or NONE. */
        int paintedLast(int x, int y) {
            int found = NONE;
            for (int b = 0; b < tree.count; b++) {
                Spot spot = spotOf(b);
                boolean inX = x >= spot.left && x < spot.left + spot.width;
                boolean inY = y >= spot.top && y < spot.top + spot.height;
                if (inX && inY && (found == NONE || tree.at(b).depth >= tree.at(found).depth)) {
                    found = b;
                }
            }
            return found;
        }

        boolean isLike(Layout other) {
            for (int b = 0; b < tree.count; b++) {
                if (!spotOf(b).isLike(other.spotOf(b))) {
                    return false;
                }
            }
            return true;
        }

        boolean hasAllWords() {
            for (int b = 0; b < tree.count; b++) {
                if (spotOf(b).text.wordsOfAll() != tree.at(b).wordCount) {
                    return false;
                }
            }
            return true;
        }
    }

    // ---- the pages

    /** Puts the units of a layout on pages, in the order of the tree. */
    private static final class Pager {
        private final Tree tree;
        private final Layout layout;
        /** The upper end of a box without shifts. */
        private final int[] topOf = new int[MOST_BOXES];
        private final boolean[] hasUnit = new boolean[MOST_BOXES];
        private int height;
        private int askedBox;
        private int askedLine;
        private int pageTop;
        /** The number of the last page, or NONE. */
        int page;
        /** The page of the unit that was asked for, or NONE. */
        int answer;

        Pager(Tree tree, Layout layout) {
            this.tree = tree;
            this.layout = layout;
        }

        void run(int pageHeight, int box, int line) {
            height = pageHeight;
            askedBox = box;
            askedLine = line;
            page = NONE;
            answer = NONE;
            for (int b = 0; b < MOST_BOXES; b++) {
                hasUnit[b] = false;
            }
            topOf[ROOT] = 0;
            walk(ROOT);
        }

        private void walk(int b) {
            for (int c = b + 1; c < tree.count; c++) {
                if (tree.isHeld(c, b) && !tree.isFloat(c)) {
                    Box box = tree.at(c);
                    topOf[c] = topOf[b] + layout.spotOf(c).y;
                    if (box.kind == 't') {
                        takeLines(c);
                    } else if (box.isRowOrGrid() || !tree.hasChildren(c)) {
                        takeBox(c);
                    } else {
                        walk(c);
                    }
                }
            }
        }

        private void takeLines(int b) {
            Lines text = layout.spotOf(b).text;
            for (int i = 0; i < text.count; i++) {
                int top = topOf[b] + text.y[i];
                boolean parts = i == 0 && text.count > 1 && isLower(topOf[b] + text.y[1] + LINE_HEIGHT);
                takeUnit(b, top, parts || isLower(top + LINE_HEIGHT));
                if (b == askedBox && i == askedLine) {
                    answer = page;
                }
            }
        }

        private void takeBox(int b) {
            int high = layout.spotOf(b).height;
            if (high > 0) {
                takeUnit(b, topOf[b], isLower(topOf[b] + high));
                if (b == askedBox) {
                    answer = page;
                }
            }
        }

        private boolean isLower(int end) {
            return end - pageTop > height;
        }

        private void takeUnit(int b, int top, boolean needsPage) {
            boolean breaks = needsPage;
            for (int around = b; around > ROOT; around = tree.at(around).parent) {
                breaks = breaks || (!hasUnit[around] && breaksAhead(around));
                hasUnit[around] = true;
            }
            if (page == NONE || breaks) {
                page++;
                pageTop = top;
            }
        }

        /** Whether a box whose first unit comes now wants a new page. */
        private boolean breaksAhead(int b) {
            char breaking = tree.at(b).breaking;
            int high = layout.spotOf(b).height;
            return breaking == 'f' || (breaking == 'v' && high <= height && isLower(topOf[b] + high));
        }
    }
}
