import java.util.ArrayList;
import java.util.List;

/**
 * A second reading of the document, written for clearness alone: it keeps nothing, goes down by single units
 * where the document goes down to the end of a float, and tells kept contexts by the numbers of calls.
 * The class is compared with it by RandomRuns.
 */
final class PlainModel {
    static final class B {
        B parent;
        int number;
        int level;
        char kind;
        List<B> children = new ArrayList<>();
        List<Integer> words = new ArrayList<>();
        int width = -1, height = -1, mt, mb, ml, mr, padding, grow, shrink = 1, columns = 1;
        char side = 'n', place = 's', breaking = 'a', alignment = 'l';
        int ox, oy, depth;
        boolean clears;

        long changedAt;      // the call that last set or added something of it
        long laidAt = -1;    // the layout in which it was laid out last
        int laidFor;

        int cx, cy;          // from the corner of the context's box
        int x, y, w, h;      // from the corner of the parent, unshifted
        int ax, ay;          // with all shifts
        List<int[]> lines = new ArrayList<>();

        boolean root() { return parent == null; }
        boolean lifted() { return !root() && place == 'a'; }
        boolean shifted() { return !root() && place == 'r'; }
        boolean inRowOrGrid() { return !root() && (parent.kind == 'f' || parent.kind == 'g'); }
        boolean floating() { return !root() && side != 'n' && !lifted() && !inRowOrGrid(); }
        boolean rowOrGrid() { return kind == 'f' || kind == 'g'; }
        boolean context() { return root() || floating() || lifted() || rowOrGrid() || inRowOrGrid(); }
        int up() { return Math.max(mt, 0); }
        int down() { return Math.max(mb, 0); }
        List<B> held() {
            List<B> list = new ArrayList<>();
            for (B c : children) if (!c.lifted()) list.add(c);
            return list;
        }
    }

    static final class F {
        int x1, x2, y1, y2;
        boolean left;
        boolean at(int row) { return row >= y1 && row < Math.max(y2, y1 + 1); }
    }

    final List<B> boxes = new ArrayList<>();
    long clock = 0;
    boolean valid = false;
    int total = 0;
    List<B> laidNow = new ArrayList<>();

    PlainModel() {
        B root = new B();
        root.kind = 'b';
        boxes.add(root);
    }

    void changed(B b) {
        clock++;
        valid = false;
        for (B a = b; a != null; a = a.parent) a.changedAt = clock;
    }

    // ---- widths

    int minMax(B b, boolean most) {
        if (b.width >= 0 && !b.root()) return b.width;
        int own = 0;
        if (b.kind == 't') {
            for (int i = 0; i < b.words.size(); i++) {
                own = most ? own + b.words.get(i) + (i > 0 ? 2 : 0) : Math.max(own, b.words.get(i));
            }
        } else if (b.kind == 'g') {
            List<B> held = b.held();
            for (int col = 0; col < b.columns; col++) {
                int m = 0;
                for (int i = col; i < held.size(); i += b.columns) m = Math.max(m, outer(held.get(i), most));
                own += m;
            }
        } else {
            for (B c : b.held()) own = b.kind == 'f' ? own + outer(c, most) : Math.max(own, outer(c, most));
        }
        return own + 2 * b.padding;
    }

    int outer(B c, boolean most) { return minMax(c, most) + c.ml + c.mr; }

    int fits(B b, int given) {
        if (b.width >= 0) return b.width;
        int v = minMax(b, true);
        if (v > given) v = given;
        int least = minMax(b, false);
        return v < least ? least : v;
    }

    // ---- layout

    int layOut(int width) {
        laidNow.clear();
        B root = boxes.get(0);
        context(root, width);
        root.ax = 0;
        root.ay = 0;
        place(root, root);
        clock++;
        int anew = 0;
        for (B b : laidNow) {
            if (b.laidAt < 0 || b.changedAt > b.laidAt || b.laidFor != b.w) {
                anew++;
                b.laidAt = clock;
                b.laidFor = b.w;
            }
        }
        total += anew;
        valid = true;
        return anew;
    }

    /** Goes down from the root with the innermost box that is shifted or lifted out. */
    void place(B b, B frame) {
        for (B c : b.children) {
            if (c.lifted()) {
                context(c, fits(c, Math.max(0, frame.w - c.ox)));
                c.ax = frame.ax + c.ox;
                c.ay = frame.ay + c.oy;
                place(c, c);
            } else {
                c.ax = b.ax + c.x;
                c.ay = b.ay + c.y;
                if (c.shifted()) {
                    c.ax += c.ox;
                    c.ay += c.oy;
                }
                place(c, c.shifted() ? c : frame);
            }
        }
    }

    void context(B b, int width) {
        laidNow.add(b);
        b.w = width;
        b.cx = 0;
        b.cy = 0;
        int high;
        if (b.kind == 'f') high = row(b);
        else if (b.kind == 'g') high = grid(b);
        else {
            List<F> floats = new ArrayList<>();
            high = inside(b, floats);
            for (F f : floats) high = Math.max(high, f.y2 + b.padding);
        }
        b.h = b.height >= 0 ? b.height : high;
    }

    int inner(B b) { return Math.max(0, b.w - 2 * b.padding); }

    int inside(B b, List<F> floats) { return b.kind == 't' ? text(b, floats) : block(b, floats); }

    /** The edges at a height: left, right, 1 if a float lies there. */
    int[] edges(List<F> floats, int y, int high, int l, int r) {
        int some = 0;
        for (F f : floats) {
            boolean lies = false;
            for (int u = y; u < y + high; u++) lies |= f.at(u);
            if (lies) {
                some = 1;
                if (f.left) l = Math.max(l, f.x2); else r = Math.min(r, f.x1);
            }
        }
        return new int[] {l, r, some};
    }

    static int collapse(List<Integer> strut) {
        int hi = 0, lo = 0;
        for (int m : strut) {
            hi = Math.max(hi, m);
            lo = Math.min(lo, m);
        }
        return hi + lo;
    }

    int block(B b, List<F> floats) {
        int place = b.cy + b.padding;
        List<Integer> strut = new ArrayList<>();
        int innerLeft = b.cx + b.padding;
        for (B c : b.held()) {
            if (c.floating()) {
                context(c, fits(c, inner(b) - c.ml - c.mr));
                int y = place + collapse(strut);
                if (!floats.isEmpty()) y = Math.max(y, floats.get(floats.size() - 1).y1);
                int high = c.up() + c.h + c.down();
                int wide = c.ml + c.w + c.mr;
                int[] e = edges(floats, y, Math.max(1, high), innerLeft, innerLeft + inner(b));
                while (e[2] == 1 && wide > e[1] - e[0]) {
                    y++;
                    e = edges(floats, y, Math.max(1, high), innerLeft, innerLeft + inner(b));
                }
                F f = new F();
                f.left = c.side == 'l';
                f.x1 = f.left ? e[0] : e[1] - wide;
                f.x2 = f.x1 + wide;
                f.y1 = y;
                f.y2 = y + high;
                floats.add(f);
                c.x = f.x1 + c.ml - b.cx;
                c.y = y + c.up() - b.cy;
                continue;
            }
            strut.add(c.mt);
            int top = place + collapse(strut);
            if (c.clears || c.rowOrGrid()) for (F f : floats) top = Math.max(top, f.y2);
            int w = c.width >= 0 ? c.width : Math.max(inner(b) - c.ml - c.mr, 2 * c.padding);
            if (c.context()) context(c, w);
            else {
                c.w = w;
                c.cx = innerLeft + c.ml;
                c.cy = top;
                int high = inside(c, floats);
                c.h = c.height >= 0 ? c.height : high;
            }
            c.x = b.padding + c.ml;
            c.y = top - b.cy;
            if (c.h != 0) {
                place = top + c.h;
                strut.clear();
            }
            strut.add(c.mb);
        }
        int end = Math.max(place + collapse(strut), b.cy + b.padding);
        return end - (b.cy + b.padding) + 2 * b.padding;
    }

    int text(B b, List<F> floats) {
        b.lines.clear();
        int y = b.cy + b.padding;
        int l = b.cx + b.padding;
        int at = 0;
        while (at < b.words.size()) {
            int[] e = edges(floats, y, 10, l, l + inner(b));
            while (b.words.get(at) > e[1] - e[0] && e[2] == 1) {
                y++;
                e = edges(floats, y, 10, l, l + inner(b));
            }
            int used = b.words.get(at);
            int n = 1;
            while (at + n < b.words.size() && used + 2 + b.words.get(at + n) <= e[1] - e[0]) {
                used += 2 + b.words.get(at + n);
                n++;
            }
            int over = Math.max(0, e[1] - e[0] - used);
            int ahead = b.alignment == 'l' ? 0 : b.alignment == 'c' ? over / 2 : over;
            b.lines.add(new int[] {e[0] + ahead - b.cx, y - b.cy, n});
            at += n;
            y += 10;
        }
        return y - (b.cy + b.padding) + 2 * b.padding;
    }

    int row(B b) {
        List<B> items = b.held();
        int n = items.size();
        long[] basis = new long[n], least = new long[n], size = new long[n];
        long free = inner(b);
        long grows = 0;
        for (int i = 0; i < n; i++) {
            B c = items.get(i);
            basis[i] = minMax(c, true);
            least[i] = Math.min(basis[i], minMax(c, false));
            size[i] = basis[i];
            free -= basis[i] + c.ml + c.mr;
            grows += c.grow;
        }
        if (free > 0 && grows > 0) {
            long given = 0;
            for (int i = 0; i < n; i++) {
                long part = free * items.get(i).grow / grows;
                size[i] += part;
                given += part;
            }
            for (int i = 0; i < n; i++) {
                if (given < free && items.get(i).grow > 0) {
                    size[i]++;
                    given++;
                }
            }
        } else if (free < 0) {
            boolean[] frozen = new boolean[n];
            while (true) {
                long weights = 0, lack = -inner(b);
                for (int i = 0; i < n; i++) {
                    B c = items.get(i);
                    if (!frozen[i]) weights += c.shrink * basis[i];
                    lack += (frozen[i] ? least[i] : basis[i]) + c.ml + c.mr;
                }
                if (weights == 0) break;
                List<Integer> cold = new ArrayList<>();
                long lost = 0;
                for (int i = 0; i < n; i++) {
                    if (frozen[i]) continue;
                    long loss = lack * (items.get(i).shrink * basis[i]) / weights;
                    if (basis[i] - loss < least[i]) cold.add(i);
                    size[i] = basis[i] - loss;
                    lost += loss;
                }
                if (cold.isEmpty()) {
                    for (int i = 0; i < n; i++) {
                        if (!frozen[i] && lost < lack && items.get(i).shrink * basis[i] > 0 && size[i] > least[i]) {
                            size[i]--;
                            lost++;
                        }
                    }
                    break;
                }
                for (int i : cold) frozen[i] = true;
                for (int i = 0; i < n; i++) size[i] = frozen[i] ? least[i] : basis[i];
            }
        }
        int x = b.padding;
        for (int i = 0; i < n; i++) {
            B c = items.get(i);
            context(c, (int) size[i]);
            c.x = x + c.ml;
            x += c.ml + c.w + c.mr;
        }
        return level(items, b.padding) + 2 * b.padding;
    }

    /** Places items below an upper end, and makes them as high as the highest. */
    int level(List<B> items, int top) {
        int high = 0;
        for (B c : items) high = Math.max(high, c.up() + c.h + c.down());
        for (B c : items) {
            c.y = top + c.up();
            if (c.height < 0) c.h = Math.max(c.h, high - c.up() - c.down());
        }
        return high;
    }

    int grid(B b) {
        List<B> items = b.held();
        int[] col = new int[b.columns];
        int free = inner(b);
        for (int k = 0; k < b.columns; k++) {
            for (int i = k; i < items.size(); i += b.columns) {
                B c = items.get(i);
                col[k] = Math.max(col[k], (c.width >= 0 ? c.width : minMax(c, false)) + c.ml + c.mr);
            }
            free -= col[k];
        }
        for (int k = 0; free > 0; k = (k + 1) % b.columns, free--) col[k]++;
        int top = b.padding;
        for (int from = 0; from < items.size(); from += b.columns) {
            List<B> part = items.subList(from, Math.min(items.size(), from + b.columns));
            int x = b.padding;
            for (int k = 0; k < part.size(); k++) {
                B c = part.get(k);
                context(c, c.width >= 0 ? c.width : Math.max(2 * c.padding, col[k] - c.ml - c.mr));
                c.x = x + c.ml;
                x += col[k];
            }
            top += level(part, top);
        }
        return top + b.padding;
    }

    // ---- behind the layout

    int hit(int x, int y) {
        int best = -1;
        for (int depth = -5; depth <= 5; depth++) {
            for (B b : boxes) {
                if (b.depth == depth && x >= b.ax && x - (long) b.ax < b.w && y >= b.ay && y - (long) b.ay < b.h) best = b.number;
            }
        }
        return best;
    }

    static final class Unit {
        B box;
        int line, top, bottom;
        List<B> opens = new ArrayList<>();
        int page;
    }

    int unshifted(B b) {
        int y = 0;
        for (B a = b; !a.root(); a = a.parent) y += a.y;
        return y;
    }

    void collect(B b, List<Unit> units) {
        for (B c : b.held()) {
            if (c.floating()) continue;
            int y = unshifted(c);
            int before = units.size();
            if (c.kind == 't') {
                for (int i = 0; i < c.lines.size(); i++) {
                    Unit u = new Unit();
                    u.box = c;
                    u.line = i;
                    u.top = y + c.lines.get(i)[1];
                    u.bottom = u.top + 10;
                    units.add(u);
                }
            } else if (c.rowOrGrid() || c.children.isEmpty()) {
                if (c.h > 0) {
                    Unit u = new Unit();
                    u.box = c;
                    u.line = -1;
                    u.top = y;
                    u.bottom = y + c.h;
                    units.add(u);
                }
            } else collect(c, units);
            if (units.size() > before) units.get(before).opens.add(c);
        }
    }

    List<Unit> paginate(int height) {
        List<Unit> units = new ArrayList<>();
        collect(boxes.get(0), units);
        int page = 0, top = 0;
        for (int i = 0; i < units.size(); i++) {
            Unit u = units.get(i);
            boolean fresh = false;
            if (i > 0) {
                for (B b : u.opens) {
                    if (b.breaking == 'f') fresh = true;
                    if (b.breaking == 'v' && unshifted(b) + b.h > top + height && b.h <= height) fresh = true;
                }
                if (u.line == 0 && u.box.lines.size() >= 2 && units.get(i + 1).bottom > top + height) fresh = true;
                if (u.bottom > top + height) fresh = true;
                if (fresh) page++;
            }
            if (i == 0 || fresh) top = u.top;
            u.page = page;
        }
        return units;
    }
}
