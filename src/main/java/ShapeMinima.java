import java.util.Arrays;

/** Least places of items in blocks, the tree over the items, and trees told by parents. */
public final class ShapeMinima {
    public static final int BAD = -1, STATE = -2, FINDING = -3, NONE = -9;

    private static final int NOTHING = 1, BEYOND = 2, SIZE = 3, UNLIKE = 4;
    private static final int ROWS = 4, IMAGES = 2, COUNTS = 10;
    private static final int MOST_INTS = 48, MOST_WIDTH = 6, MOST_UNDONE = 10, MOST_NODES = 24;
    private static final int MOST_MEETINGS = 2 * MOST_NODES - 1, TOUR_WIDTH = 4;
    private static final int MISSING = -1, ROOT = -1;
    private static final int TABLE_BITS = 3, ENTRY_BITS = 6;
    // A shape has a leading 1, a digit for each of 6 items put on and for each of 5 taken off.
    private static final int SHAPE_DIGITS = 2 * MOST_WIDTH, SHAPES = 1 << SHAPE_DIGITS;

    private final Row[] rows;
    private final Index index;
    private final History history;
    private final Image[] images;
    private final Family family;
    private final int[] findingCounts;
    private int latestFinding;
    private int told;

    public ShapeMinima() {
        rows = new Row[ROWS];
        for (int r = 0; r < ROWS; r++) {
            rows[r] = new Row();
        }
        images = new Image[IMAGES];
        for (int k = 0; k < IMAGES; k++) {
            images[k] = new Image();
        }
        index = new Index();
        history = new History();
        family = new Family();
        findingCounts = new int[UNLIKE + 1];
        latestFinding = 0;
        told = 0;
    }

    // ---- 1 rows

    public int row(int r, int n) {
        if (isNoRow(r) || n > MOST_INTS) {
            return BAD;
        }
        if (n < 0) {
            return refuse(SIZE);
        }
        rows[r].becomeZeros(n);
        return n;
    }

    public int lay(int r, int i, int v) {
        int refusal = refusalOfPlace(r, i);
        if (refusal != 0) {
            return refusal;
        }
        told = rows[r].ints[i];
        rows[r].ints[i] = v;
        return 1;
    }

    public int at(int r, int i) {
        int refusal = refusalOfPlace(r, i);
        if (refusal != 0) {
            return refusal;
        }
        told = rows[r].ints[i];
        return 1;
    }

    public int tear(int r) {
        if (isNoRow(r)) {
            return BAD;
        }
        if (rows[r].isMissing()) {
            return refuse(NOTHING);
        }
        int had = rows[r].many;
        rows[r].many = MISSING;
        return had;
    }

    public int copy(int r, int i, int to, int j, int n) {
        if (isNoRow(r) || isNoRow(to)) {
            return BAD;
        }
        if (rows[r].isMissing() || rows[to].isMissing()) {
            return refuse(NOTHING);
        }
        if (rows[r].lacksSome(i, n) || rows[to].lacksSome(j, n)) {
            return refuse(BEYOND);
        }
        System.arraycopy(rows[r].ints, i, rows[to].ints, j, n);
        return n;
    }

    // ---- 2 the index

    public int build(int r, int b) {
        if (isNoRow(r) || b < 1 || b > MOST_WIDTH) {
            return BAD;
        }
        if (rows[r].isMissing()) {
            return refuse(NOTHING);
        }
        if (rows[r].many == 0) {
            return refuse(SIZE);
        }
        index.becomeOver(rows[r], b);
        history.forget();
        return index.blocks;
    }

    public int put(int i, int v) {
        int refusal = refusalOfItem(i);
        if (refusal != 0) {
            return refusal;
        }
        told = index.items.ints[i];
        history.remember(i, told);
        return index.change(i, v) ? 1 : 0;
    }

    public int undo() {
        if (history.many < 1) {
            return STATE;
        }
        int latest = history.many - 1;
        index.change(history.places[latest], history.olds[latest]);
        history.many = latest;
        return latest;
    }

    public int keep(int k) {
        if (isNoImage(k)) {
            return BAD;
        }
        if (index.isNone()) {
            return STATE;
        }
        images[k].items.become(index.items);
        images[k].width = index.width;
        return index.items.many;
    }

    public int on(int k) {
        if (isNoImage(k)) {
            return BAD;
        }
        if (images[k].items.isMissing()) {
            return STATE;
        }
        index.becomeOver(images[k].items, images[k].width);
        history.forget();
        return index.items.many;
    }

    public int item(int i) {
        int refusal = refusalOfItem(i);
        if (refusal != 0) {
            return refusal;
        }
        told = index.items.ints[i];
        return 1;
    }

    public int shape(int block) {
        if (index.isNone()) {
            return STATE;
        }
        if (block < 0 || block >= index.blocks) {
            return refuse(BEYOND);
        }
        return index.shapes[block];
    }

    public int entry(int shape, int i, int j) {
        if (index.isNone()) {
            return STATE;
        }
        if (!index.made.has(shape)) {
            return BAD;
        }
        // Every digit 1 but the leading one stands for an item.
        int places = Integer.bitCount(shape) - 1;
        if (i < 0 || j < i || j >= places) {
            return refuse(BEYOND);
        }
        return index.tableEntry(shape, i, j);
    }

    // ---- 3 least places

    public int least(int i, int j) {
        int refusal = refusalOfRun(i, j);
        if (refusal != 0) {
            return refusal;
        }
        int place = index.leastPlace(i, j);
        told = index.items.ints[place];
        return place;
    }

    public int kth(int i, int j, int k) {
        int refusal = refusalOfRun(i, j);
        if (refusal != 0) {
            return refusal;
        }
        if (k < 0 || k > j - i) {
            return refuse(BEYOND);
        }
        int place = index.kthPlace(i, j, k);
        told = index.items.ints[place];
        return place;
    }

    public int left(int i) {
        int refusal = refusalOfItem(i);
        if (refusal != 0) {
            return refusal;
        }
        int place = index.leftEdge(i);
        return place < 0 ? NONE : place;
    }

    public int right(int i) {
        int refusal = refusalOfItem(i);
        if (refusal != 0) {
            return refusal;
        }
        int place = index.rightEdge(i);
        return place >= index.items.many ? NONE : place;
    }

    public int owns(int i) {
        int refusal = refusalOfItem(i);
        if (refusal != 0) {
            return refusal;
        }
        return index.runsOwned(i);
    }

    public long sum() {
        long all = 0;
        for (int i = 0; i < index.items.many; i++) {
            all += (long) index.items.ints[i] * index.runsOwned(i);
        }
        return all;
    }

    public int parent(int i) {
        int refusal = refusalOfItem(i);
        if (refusal != 0) {
            return refusal;
        }
        return index.parentPlace(i);
    }

    public int depth(int i) {
        int refusal = refusalOfItem(i);
        if (refusal != 0) {
            return refusal;
        }
        return index.depthOf(i);
    }

    public int size(int i) {
        int refusal = refusalOfItem(i);
        if (refusal != 0) {
            return refusal;
        }
        return index.rightEdge(i) - index.leftEdge(i) - 1;
    }

    public int above(int i, int d) {
        int refusal = refusalOfItem(i);
        if (refusal != 0) {
            return refusal;
        }
        if (d < 0) {
            return refuse(BEYOND);
        }
        return index.ancestor(i, d);
    }

    public int alike(int i, int j, int n) {
        if (index.isNone()) {
            return STATE;
        }
        if (index.items.lacksSome(i, n) || index.items.lacksSome(j, n)) {
            return refuse(BEYOND);
        }
        return index.areAlike(i, j, n) ? 1 : 0;
    }

    // ---- 4 a tree told by parents

    public int tree(int r) {
        if (isNoRow(r)) {
            return BAD;
        }
        if (rows[r].isMissing()) {
            return refuse(NOTHING);
        }
        if (rows[r].many < 1 || rows[r].many > MOST_NODES) {
            return refuse(SIZE);
        }
        if (!Family.isTold(rows[r])) {
            return refuse(UNLIKE);
        }
        family.becomeTold(rows[r]);
        return family.nodes;
    }

    public int meet(int u, int v) {
        int refusal = refusalOfNodes(u, v);
        if (refusal != 0) {
            return refusal;
        }
        return family.meetingNode(u, v);
    }

    public int apart(int u, int v) {
        int refusal = refusalOfNodes(u, v);
        if (refusal != 0) {
            return refusal;
        }
        int top = family.meetingNode(u, v);
        return family.depths[u] + family.depths[v] - 2 * family.depths[top];
    }

    public int up(int u, int depth) {
        int refusal = refusalOfNodes(u, u);
        if (refusal != 0) {
            return refusal;
        }
        if (depth < 0) {
            return refuse(BEYOND);
        }
        return family.ancestorAt(u, depth);
    }

    public int node(int u, int what) {
        if (family.nodes == 0) {
            return STATE;
        }
        if (what < 0 || what > 2) {
            return BAD;
        }
        if (family.lacks(u)) {
            return refuse(BEYOND);
        }
        if (what == 0) {
            return family.depths[u];
        }
        return what == 1 ? family.sizes[u] : family.firsts[u];
    }

    // ---- what is told

    public int asked() {
        return told;
    }

    public int count(int what) {
        switch (what) {
            case 0: return index.isNone() ? 0 : index.items.many;
            case 1: return index.width;
            case 2: return index.blocks;
            case 3: return index.unlikeShapes();
            case 4: return index.levels();
            case 5: return index.made.many;
            case 6: return index.bits();
            case 7: return history.many;
            case 8: return rowsThere();
            case 9: return family.nodes;
            default: return BAD;
        }
    }

    public int finding() {
        return latestFinding;
    }

    public int findings(int f) {
        return f < NOTHING || f > UNLIKE ? BAD : findingCounts[f];
    }

    public long digest() {
        long h = 17;
        for (int what = 0; what < COUNTS; what++) {
            h = 31 * h + count(what);
        }
        h = index.items.digestOn(h);
        for (int block = 0; block < index.blocks; block++) {
            h = 31 * h + index.shapes[block];
        }
        for (int r = 0; r < ROWS; r++) {
            h = 31 * h + rows[r].many;
            h = rows[r].digestOn(h);
        }
        return h;
    }

    // ---- what is refused: 0 where nothing is

    private int refuse(int which) {
        latestFinding = which;
        findingCounts[which]++;
        return FINDING;
    }

    private static boolean isNoRow(int r) {
        return r < 0 || r >= ROWS;
    }

    private static boolean isNoImage(int k) {
        return k < 0 || k >= IMAGES;
    }

    private int refusalOfPlace(int r, int i) {
        if (isNoRow(r)) {
            return BAD;
        }
        if (rows[r].isMissing()) {
            return refuse(NOTHING);
        }
        return rows[r].lacks(i) ? refuse(BEYOND) : 0;
    }

    private int refusalOfItem(int i) {
        return refusalOfRun(i, i);
    }

    private int refusalOfRun(int i, int j) {
        if (index.isNone()) {
            return STATE;
        }
        return index.items.lacks(i) || index.items.lacks(j) || j < i ? refuse(BEYOND) : 0;
    }

    private int refusalOfNodes(int u, int v) {
        if (family.nodes == 0) {
            return STATE;
        }
        return family.lacks(u) || family.lacks(v) ? refuse(BEYOND) : 0;
    }

    private int rowsThere() {
        int there = 0;
        for (int r = 0; r < ROWS; r++) {
            if (!rows[r].isMissing()) {
                there++;
            }
        }
        return there;
    }

    /** Up to 48 ints, or missing; the array is made once and used again. */
    private static final class Row {
        final int[] ints;
        int many;

        Row() {
            ints = new int[MOST_INTS];
            many = MISSING;
        }

        boolean isMissing() {
            return many < 0;
        }

        boolean lacks(int i) {
            return i < 0 || i >= many;
        }

        boolean lacksSome(int from, int n) {
            // from + n might pass the largest int; many - from, behind the test of from, cannot.
            return from < 0 || n < 0 || n > many - from;
        }

        void becomeZeros(int n) {
            Arrays.fill(ints, 0);
            many = n;
        }

        void become(Row other) {
            System.arraycopy(other.ints, 0, ints, 0, MOST_INTS);
            many = other.many;
        }

        long digestOn(long before) {
            long h = before;
            for (int i = 0; i < many; i++) {
                h = 31 * h + ints[i];
            }
            return h;
        }
    }

    /** Items and the width of blocks as they were when they were kept. */
    private static final class Image {
        final Row items;
        int width;

        Image() {
            items = new Row();
            width = 0;
        }
    }

    /** What items were ahead of the latest changes, the latest one last. */
    private static final class History {
        final int[] places;
        final int[] olds;
        int many;

        History() {
            places = new int[MOST_UNDONE];
            olds = new int[MOST_UNDONE];
            many = 0;
        }

        void forget() {
            many = 0;
        }

        void remember(int place, int old) {
            if (many >= MOST_UNDONE) {
                loseOldest();
            }
            places[many] = place;
            olds[many] = old;
            many++;
        }

        private void loseOldest() {
            for (int k = 1; k < MOST_UNDONE; k++) {
                places[k - 1] = places[k];
                olds[k - 1] = olds[k];
            }
            many = MOST_UNDONE - 1;
        }
    }

    /** A set of shapes, a bit for each number that a shape may be. */
    private static final class ShapeSet {
        final long[] words;
        int many;

        ShapeSet() {
            words = new long[SHAPES / 64];
            many = 0;
        }

        void becomeEmpty() {
            Arrays.fill(words, 0L);
            many = 0;
        }

        boolean has(int shape) {
            return shape >= 0 && shape < SHAPES && (words[shape >> 6] >>> (shape & 63) & 1L) != 0L;
        }

        void include(int shape) {
            if (shape >= 0 && shape < SHAPES && !has(shape)) {
                words[shape >> 6] |= 1L << (shape & 63);
                many++;
            }
        }
    }

    /**
     * Items in blocks. At 48 items a scan is as good as tables kept in memory: what a table
     * tells is read off the shape's digits when it is asked for, and levels are counted only.
     */
    private static final class Index {
        final Row items;
        final int[] shapes;
        final ShapeSet made;
        final int[] pile;
        int width;
        int blocks;

        Index() {
            items = new Row();
            shapes = new int[MOST_INTS];
            made = new ShapeSet();
            pile = new int[MOST_WIDTH];
            width = 0;
            blocks = 0;
        }

        boolean isNone() {
            return items.isMissing();
        }

        void becomeOver(Row from, int newWidth) {
            items.become(from);
            width = newWidth;
            blocks = newWidth < 1 ? 0 : (items.many + newWidth - 1) / newWidth;
            made.becomeEmpty();
            for (int block = 0; block < blocks; block++) {
                shapes[block] = shapeNow(block);
                made.include(shapes[block]);
            }
        }

        /** Whether the item's block has another shape then. */
        boolean change(int i, int v) {
            if (items.lacks(i) || width < 1) {
                return false;
            }
            items.ints[i] = v;
            int block = i / width;
            int before = shapes[block];
            shapes[block] = shapeNow(block);
            made.include(shapes[block]);
            return shapes[block] != before;
        }

        private int shapeNow(int block) {
            int from = block * width;
            int behind = Math.min(from + width, items.many);
            int number = 1;
            int height = 0;
            for (int k = from; k < behind && height < MOST_WIDTH; k++) {
                while (height > 0 && pile[height - 1] > items.ints[k]) {
                    height--;
                    number = 2 * number;
                }
                pile[height] = items.ints[k];
                height++;
                number = 2 * number + 1;
            }
            return number;
        }

        /**
         * The shape's digits say how the pile of places stood when j was put on it: the lowest
         * place on it from i on is the one that nothing from i to j has taken off.
         */
        int tableEntry(int shape, int i, int j) {
            int height = 0;
            int place = 0;
            for (int digit = leadingDigit(shape) - 1; digit >= 0 && place <= j; digit--) {
                if ((shape >> digit & 1) == 0) {
                    height = Math.max(0, height - 1);
                } else if (height < MOST_WIDTH) {
                    pile[height] = place;
                    height++;
                    place++;
                }
            }
            for (int k = 0; k < height; k++) {
                if (pile[k] >= i) {
                    return pile[k];
                }
            }
            return j;
        }

        private static int leadingDigit(int shape) {
            int digit = SHAPE_DIGITS - 1;
            while (digit > 0 && shape >> digit == 0) {
                digit--;
            }
            return digit;
        }

        int unlikeShapes() {
            int unlike = 0;
            for (int block = 0; block < blocks; block++) {
                int same = 0;
                while (same < block && shapes[same] != shapes[block]) {
                    same++;
                }
                if (same == block) {
                    unlike++;
                }
            }
            return unlike;
        }

        int levels() {
            int many = 0;
            for (int run = 1; run <= blocks; run *= 2) {
                many++;
            }
            return many;
        }

        private int entries() {
            int many = 0;
            for (int run = 1; run <= blocks; run *= 2) {
                many += blocks - run + 1;
            }
            return many;
        }

        int bits() {
            int forShapes = TABLE_BITS * width * width * unlikeShapes();
            return 2 * width * blocks + ENTRY_BITS * entries() + forShapes;
        }

        int leastPlace(int from, int to) {
            int best = from;
            for (int k = from + 1; k <= to; k++) {
                if (items.ints[k] < items.ints[best]) {
                    best = k;
                }
            }
            return best;
        }

        int kthPlace(int from, int to, int k) {
            int place = from;
            while (place < to && rank(from, to, place) != k) {
                place++;
            }
            return place;
        }

        private int rank(int from, int to, int place) {
            int ahead = 0;
            for (int k = from; k <= to; k++) {
                boolean less = items.ints[k] < items.ints[place];
                if (less || k < place && items.ints[k] == items.ints[place]) {
                    ahead++;
                }
            }
            return ahead;
        }

        /** -1 where there is none, so that what lies between the edges can be counted. */
        int leftEdge(int i) {
            int k = i - 1;
            while (k >= 0 && items.ints[k] > items.ints[i]) {
                k--;
            }
            return k;
        }

        /** One behind the last place where there is none, so that it can be counted with, too. */
        int rightEdge(int i) {
            int k = i + 1;
            while (k < items.many && items.ints[k] >= items.ints[i]) {
                k++;
            }
            return k;
        }

        int runsOwned(int i) {
            return (i - leftEdge(i)) * (rightEdge(i) - i);
        }

        int parentPlace(int i) {
            int before = leftEdge(i);
            int behind = rightEdge(i);
            if (behind >= items.many) {
                return before < 0 ? NONE : before;
            }
            if (before < 0) {
                return behind;
            }
            // Of like edges the first one is above the other, so the other is the nearer one.
            return items.ints[before] > items.ints[behind] ? before : behind;
        }

        int depthOf(int i) {
            int steps = 0;
            int place = parentPlace(i);
            while (steps < items.many && place != NONE) {
                place = parentPlace(place);
                steps++;
            }
            return steps;
        }

        int ancestor(int i, int d) {
            int steps = Math.min(d, items.many);
            int place = i;
            for (int k = 0; k < steps && place != NONE; k++) {
                place = parentPlace(place);
            }
            return place;
        }

        /**
         * Shapes of up to 48 items pass every number type. They are the same just when each
         * item finds the pile cut down to the same place.
         */
        boolean areAlike(int i, int j, int n) {
            for (int k = 0; k < n; k++) {
                if (stepsToLeftWithin(i, i + k) != stepsToLeftWithin(j, j + k)) {
                    return false;
                }
            }
            return true;
        }

        private int stepsToLeftWithin(int from, int place) {
            return place - Math.max(from - 1, leftEdge(place));
        }
    }

    /** A tree told by parents, with its tour. */
    private static final class Family {
        final int[] parents;
        final int[] depths;
        final int[] sizes;
        final int[] firsts;
        final int[] met;
        final Row metDepths;
        final Index tour;
        int nodes;

        Family() {
            parents = new int[MOST_NODES];
            depths = new int[MOST_NODES];
            sizes = new int[MOST_NODES];
            firsts = new int[MOST_NODES];
            met = new int[MOST_MEETINGS];
            metDepths = new Row();
            tour = new Index();
            nodes = 0;
        }

        boolean lacks(int u) {
            return u < 0 || u >= nodes;
        }

        static boolean isTold(Row row) {
            int roots = 0;
            for (int k = 0; k < row.many; k++) {
                if (row.ints[k] == ROOT) {
                    roots++;
                } else if (row.lacks(row.ints[k])) {
                    return false;
                }
            }
            return roots == 1 && allComeToTheRoot(row);
        }

        private static boolean allComeToTheRoot(Row row) {
            for (int k = 0; k < row.many; k++) {
                if (stepsToTheRoot(row.ints, k, row.many) >= row.many) {
                    return false;
                }
            }
            return true;
        }

        /** As many steps as there are nodes: a circle. */
        private static int stepsToTheRoot(int[] parents, int u, int nodes) {
            int steps = 0;
            int at = u;
            while (steps < nodes && parents[at] != ROOT) {
                at = parents[at];
                steps++;
            }
            return steps;
        }

        void becomeTold(Row row) {
            nodes = row.many;
            System.arraycopy(row.ints, 0, parents, 0, nodes);
            for (int u = 0; u < nodes; u++) {
                depths[u] = stepsToTheRoot(parents, u, nodes);
            }
            countSizes();
            goTour();
        }

        private void countSizes() {
            Arrays.fill(sizes, 0);
            for (int u = 0; u < nodes; u++) {
                int at = u;
                for (int k = 0; k <= depths[u]; k++) {
                    sizes[at]++;
                    at = parents[at];
                }
            }
        }

        private int root() {
            int u = 0;
            while (u < nodes - 1 && parents[u] != ROOT) {
                u++;
            }
            return u;
        }

        private void goTour() {
            Arrays.fill(firsts, MISSING);
            int meetings = 2 * nodes - 1;
            int at = root();
            int sonDone = -1;
            metDepths.becomeZeros(meetings);
            for (int k = 0; k < meetings && at != ROOT; k++) {
                met[k] = at;
                metDepths.ints[k] = depths[at];
                if (firsts[at] == MISSING) {
                    firsts[at] = k;
                }
                int son = sonBehind(at, sonDone);
                sonDone = son < nodes ? -1 : at;
                at = son < nodes ? son : parents[at];
            }
            tour.becomeOver(metDepths, TOUR_WIDTH);
        }

        /** As many as there are nodes where there is none. */
        private int sonBehind(int u, int sonDone) {
            int son = sonDone + 1;
            while (son < nodes && parents[son] != u) {
                son++;
            }
            return son;
        }

        int meetingNode(int u, int v) {
            int from = Math.min(firsts[u], firsts[v]);
            int to = Math.max(firsts[u], firsts[v]);
            return met[tour.leastPlace(from, to)];
        }

        int ancestorAt(int u, int depth) {
            if (depth > depths[u]) {
                return NONE;
            }
            int at = u;
            for (int k = depths[u]; k > depth; k--) {
                at = parents[at];
            }
            return at;
        }
    }
}
