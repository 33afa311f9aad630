import java.math.BigInteger;
import java.util.ArrayDeque;
import java.util.ArrayList;
import java.util.Comparator;
import java.util.HashSet;
import java.util.List;
import java.util.Set;
import java.util.TreeSet;

/** The document's words once more, as slow and literal as can be, for comparison. */
final class Model {
    private static final int BAD = -1, STATE = -2, FINDING = -3, NONE = -9;
    private static final int NOTHING = 1, BEYOND = 2, SIZE = 3, UNLIKE = 4;

    private final List<List<Integer>> rows = new ArrayList<>();
    private List<Integer> items = null;
    private int width = 0;
    private final Set<BigInteger> made = new HashSet<>();
    private final ArrayDeque<int[]> undone = new ArrayDeque<>();
    private final List<List<Integer>> imageItems = new ArrayList<>();
    private final int[] imageWidths = new int[2];
    private List<Integer> parents = null;
    private int told = 0;
    private int latest = 0;
    private final int[] found = new int[5];

    Model() {
        for (int r = 0; r < 4; r++) rows.add(null);
        for (int k = 0; k < 2; k++) imageItems.add(null);
    }

    private int find(int f) {
        latest = f;
        found[f]++;
        return FINDING;
    }

    private boolean within(int x, int from, int to) {
        return from <= x && x <= to;
    }

    // ---- 1 rows

    int row(int r, int n) {
        if (!within(r, 0, 3) || n > 48) return BAD;
        if (n < 0) return find(SIZE);
        List<Integer> fresh = new ArrayList<>();
        for (int k = 0; k < n; k++) fresh.add(0);
        rows.set(r, fresh);
        return n;
    }

    int lay(int r, int i, int v) {
        int answer = at(r, i);
        if (answer == 1) rows.get(r).set(i, v);
        return answer;
    }

    int at(int r, int i) {
        if (!within(r, 0, 3)) return BAD;
        if (rows.get(r) == null) return find(NOTHING);
        if (!within(i, 0, rows.get(r).size() - 1)) return find(BEYOND);
        told = rows.get(r).get(i);
        return 1;
    }

    int tear(int r) {
        if (!within(r, 0, 3)) return BAD;
        if (rows.get(r) == null) return find(NOTHING);
        int had = rows.get(r).size();
        rows.set(r, null);
        return had;
    }

    int copy(int r, int i, int to, int j, int n) {
        if (!within(r, 0, 3) || !within(to, 0, 3)) return BAD;
        if (rows.get(r) == null || rows.get(to) == null) return find(NOTHING);
        if (i < 0 || j < 0 || n < 0) return find(BEYOND);
        if ((long) i + n > rows.get(r).size() || (long) j + n > rows.get(to).size()) return find(BEYOND);
        List<Integer> taken = new ArrayList<>(rows.get(r).subList(i, i + n));
        for (int k = 0; k < n; k++) rows.get(to).set(j + k, taken.get(k));
        return n;
    }

    // ---- 2 the index

    private List<Integer> block(int k) {
        return items.subList(k * width, Math.min(items.size(), (k + 1) * width));
    }

    private int blocks() {
        int many = 0;
        while (many * width < items.size()) many++;
        return many;
    }

    static BigInteger shapeOf(List<Integer> some) {
        BigInteger number = BigInteger.ONE;
        ArrayDeque<Integer> pile = new ArrayDeque<>();
        for (int x : some) {
            while (!pile.isEmpty() && pile.peek() > x) {
                pile.pop();
                number = number.shiftLeft(1);
            }
            pile.push(x);
            number = number.shiftLeft(1).add(BigInteger.ONE);
        }
        return number;
    }

    private void makeTables() {
        for (int k = 0; k < blocks(); k++) made.add(shapeOf(block(k)));
    }

    private int buildOver(List<Integer> over, int b) {
        items = new ArrayList<>(over);
        width = b;
        made.clear();
        undone.clear();
        makeTables();
        return blocks();
    }

    int build(int r, int b) {
        if (!within(r, 0, 3) || !within(b, 1, 6)) return BAD;
        if (rows.get(r) == null) return find(NOTHING);
        if (rows.get(r).isEmpty()) return find(SIZE);
        return buildOver(rows.get(r), b);
    }

    private int lacksItem(int i) {
        if (items == null) return STATE;
        return within(i, 0, items.size() - 1) ? 0 : find(BEYOND);
    }

    int put(int i, int v) {
        int no = lacksItem(i);
        if (no != 0) return no;
        BigInteger before = shapeOf(block(i / width));
        told = items.get(i);
        undone.addLast(new int[] {i, told});
        if (undone.size() > 10) undone.removeFirst();
        items.set(i, v);
        makeTables();
        return before.equals(shapeOf(block(i / width))) ? 0 : 1;
    }

    int undo() {
        if (undone.isEmpty()) return STATE;
        int[] last = undone.removeLast();
        items.set(last[0], last[1]);
        return undone.size();
    }

    int keep(int k) {
        if (!within(k, 0, 1)) return BAD;
        if (items == null) return STATE;
        imageItems.set(k, new ArrayList<>(items));
        imageWidths[k] = width;
        return items.size();
    }

    int on(int k) {
        if (!within(k, 0, 1)) return BAD;
        if (imageItems.get(k) == null) return STATE;
        buildOver(imageItems.get(k), imageWidths[k]);
        return items.size();
    }

    int item(int i) {
        int no = lacksItem(i);
        if (no != 0) return no;
        told = items.get(i);
        return 1;
    }

    int shape(int block) {
        if (items == null) return STATE;
        if (!within(block, 0, blocks() - 1)) return find(BEYOND);
        return shapeOf(block(block)).intValueExact();
    }

    int entry(int shape, int i, int j) {
        if (items == null) return STATE;
        if (!made.contains(BigInteger.valueOf(shape))) return BAD;
        List<Integer> such = itemsOfShape(shape);
        if (i < 0 || j < i || j >= such.size()) return find(BEYOND);
        return leastOf(such, i, j);
    }

    /** Items 0 .. 5 in any order with repeats until some have the shape. */
    private static List<Integer> itemsOfShape(int shape) {
        List<Integer> such = search(new ArrayList<>(), BigInteger.valueOf(shape));
        if (such == null) throw new IllegalStateException("no items have shape " + shape);
        return such;
    }

    private static List<Integer> search(List<Integer> some, BigInteger shape) {
        BigInteger now = shapeOf(some);
        if (now.equals(shape)) return some;
        if (some.size() == 6 || now.compareTo(shape) > 0) return null;
        for (int x = 0; x < 6; x++) {
            some.add(x);
            List<Integer> such = search(some, shape);
            if (such != null) return such;
            some.remove(some.size() - 1);
        }
        return null;
    }

    // ---- 3 least places

    static int leastOf(List<Integer> some, int i, int j) {
        int least = Integer.MAX_VALUE;
        for (int x : some.subList(i, j + 1)) least = Math.min(least, x);
        return i + some.subList(i, j + 1).indexOf(least);
    }

    private int lacksRun(int i, int j) {
        if (items == null) return STATE;
        boolean there = within(i, 0, items.size() - 1) && within(j, i, items.size() - 1);
        return there ? 0 : find(BEYOND);
    }

    int least(int i, int j) {
        int no = lacksRun(i, j);
        if (no != 0) return no;
        int place = leastOf(items, i, j);
        told = items.get(place);
        return place;
    }

    int kth(int i, int j, int k) {
        int no = lacksRun(i, j);
        if (no != 0) return no;
        if (!within(k, 0, j - i)) return find(BEYOND);
        List<Integer> places = new ArrayList<>();
        for (int p = i; p <= j; p++) places.add(p);
        places.sort(Comparator.comparing((Integer p) -> items.get(p)));
        told = items.get(places.get(k));
        return places.get(k);
    }

    int left(int i) {
        int no = lacksItem(i);
        if (no != 0) return no;
        for (int k = i - 1; k >= 0; k--) if (items.get(k) <= items.get(i)) return k;
        return NONE;
    }

    int right(int i) {
        int no = lacksItem(i);
        if (no != 0) return no;
        for (int k = i + 1; k < items.size(); k++) if (items.get(k) < items.get(i)) return k;
        return NONE;
    }

    int owns(int i) {
        int no = lacksItem(i);
        if (no != 0) return no;
        int runs = 0;
        for (int a = 0; a < items.size(); a++)
            for (int b = a; b < items.size(); b++)
                if (leastOf(items, a, b) == i) runs++;
        return runs;
    }

    long sum() {
        long all = 0;
        if (items == null) return all;
        for (int a = 0; a < items.size(); a++)
            for (int b = a; b < items.size(); b++)
                all += items.get(leastOf(items, a, b));
        return all;
    }

    /** From the one above all down to item i: each place with its run. */
    private List<int[]> wayDownTo(int i) {
        List<int[]> way = new ArrayList<>();
        int from = 0;
        int to = items.size() - 1;
        while (true) {
            int top = leastOf(items, from, to);
            way.add(new int[] {top, from, to});
            if (top == i) return way;
            if (i < top) to = top - 1; else from = top + 1;
        }
    }

    int parent(int i) {
        return above(i, 1);
    }

    int depth(int i) {
        int no = lacksItem(i);
        return no != 0 ? no : wayDownTo(i).size() - 1;
    }

    int size(int i) {
        int no = lacksItem(i);
        if (no != 0) return no;
        int below = 0;
        for (int k = 0; k < items.size(); k++)
            for (int[] step : wayDownTo(k)) if (step[0] == i) below++;
        return below;
    }

    int above(int i, int d) {
        int no = lacksItem(i);
        if (no != 0) return no;
        if (d < 0) return find(BEYOND);
        List<int[]> way = wayDownTo(i);
        return d >= way.size() ? NONE : way.get(way.size() - 1 - d)[0];
    }

    int alike(int i, int j, int n) {
        if (items == null) return STATE;
        if (i < 0 || j < 0 || n < 0) return find(BEYOND);
        if ((long) i + n > items.size() || (long) j + n > items.size()) return find(BEYOND);
        return shapeOf(items.subList(i, i + n)).equals(shapeOf(items.subList(j, j + n))) ? 1 : 0;
    }

    // ---- 4 a tree told by parents

    int tree(int r) {
        if (!within(r, 0, 3)) return BAD;
        if (rows.get(r) == null) return find(NOTHING);
        if (!within(rows.get(r).size(), 1, 24)) return find(SIZE);
        List<Integer> told = new ArrayList<>(rows.get(r));
        if (told.indexOf(-1) != told.lastIndexOf(-1) || !told.contains(-1)) return find(UNLIKE);
        Set<Integer> reached = new TreeSet<>();
        reach(told, told.indexOf(-1), reached);
        if (reached.size() != told.size()) return find(UNLIKE);
        parents = told;
        return parents.size();
    }

    private static void reach(List<Integer> parents, int u, Set<Integer> reached) {
        reached.add(u);
        for (int son = 0; son < parents.size(); son++) if (parents.get(son) == u) reach(parents, son, reached);
    }

    private int lacksNode(int u) {
        if (parents == null) return STATE;
        return within(u, 0, parents.size() - 1) ? 0 : find(BEYOND);
    }

    /** The node itself first, the root last. */
    private List<Integer> line(int u) {
        List<Integer> line = new ArrayList<>();
        for (int x = u; x != -1; x = parents.get(x)) line.add(x);
        return line;
    }

    int meet(int u, int v) {
        if (parents == null) return STATE;
        if (!within(u, 0, parents.size() - 1) || !within(v, 0, parents.size() - 1)) return find(BEYOND);
        for (int x : line(u)) if (line(v).contains(x)) return x;
        throw new IllegalStateException("two nodes of one tree do not meet");
    }

    int apart(int u, int v) {
        int top = meet(u, v);
        return top < 0 ? top : line(u).indexOf(top) + line(v).indexOf(top);
    }

    int up(int u, int depth) {
        int no = lacksNode(u);
        if (no != 0) return no;
        if (depth < 0) return find(BEYOND);
        for (int x : line(u)) if (line(x).size() - 1 == depth) return x;
        return NONE;
    }

    int node(int u, int what) {
        if (parents == null) return STATE;
        if (!within(what, 0, 2)) return BAD;
        int no = lacksNode(u);
        if (no != 0) return no;
        if (what == 0) return line(u).size() - 1;
        if (what == 1) {
            Set<Integer> below = new TreeSet<>();
            reach(parents, u, below);
            return below.size();
        }
        List<Integer> tour = new ArrayList<>();
        goOn(parents.indexOf(-1), tour);
        return tour.indexOf(u);
    }

    private void goOn(int u, List<Integer> tour) {
        tour.add(u);
        for (int son = 0; son < parents.size(); son++) {
            if (parents.get(son) == u) {
                goOn(son, tour);
                tour.add(u);
            }
        }
    }

    // ---- what is told

    int asked() {
        return told;
    }

    int count(int what) {
        if (!within(what, 0, 9)) return BAD;
        if (what == 7) return undone.size();
        if (what == 8) return (int) rows.stream().filter(row -> row != null).count();
        if (what == 9) return parents == null ? 0 : parents.size();
        if (items == null) return 0;
        Set<BigInteger> now = new HashSet<>();
        for (int k = 0; k < blocks(); k++) now.add(shapeOf(block(k)));
        int levels = 0;
        int entries = 0;
        for (int together : new int[] {1, 2, 4, 8, 16, 32, 64}) {
            if (together <= blocks()) levels++;
            for (int first = 0; first + together <= blocks(); first++) entries++;
        }
        int bits = 2 * width * blocks() + 6 * entries + 3 * width * width * now.size();
        return new int[] {items.size(), width, blocks(), now.size(), levels, made.size(), bits}[what];
    }

    int finding() {
        return latest;
    }

    int findings(int f) {
        return within(f, 1, 4) ? found[f] : BAD;
    }

    long digest() {
        List<Integer> all = new ArrayList<>();
        for (int what = 0; what < 10; what++) all.add(count(what));
        if (items != null) {
            all.addAll(items);
            for (int k = 0; k < blocks(); k++) all.add(shapeOf(block(k)).intValueExact());
        }
        for (List<Integer> row : rows) {
            all.add(row == null ? -1 : row.size());
            if (row != null) all.addAll(row);
        }
        long h = 17;
        for (int v : all) h = 31 * h + v;
        return h;
    }
}
