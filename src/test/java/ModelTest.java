import java.util.Random;

/** Long runs of chosen and of wild calls, each answer compared with the model's. */
public final class ModelTest {
    private static final int CALLS = 512;
    private static final int[] WILD = {
        Integer.MIN_VALUE, Integer.MIN_VALUE + 1, -49, -2, -1, 0, 1, 2, 3, 4, 5, 6, 7, 9, 10, 23, 24, 25,
        47, 48, 49, 1 << 12, 4095, Integer.MAX_VALUE - 1, Integer.MAX_VALUE};

    private final Expect expect;
    private final Random random;
    private final ShapeMinima real = new ShapeMinima();
    private final Model model = new Model();
    private final String run;
    private final int wildness;
    private final int spread;

    private ModelTest(Expect expect, int seed) {
        this.expect = expect;
        random = new Random(seed);
        run = "run " + seed + ": ";
        wildness = new int[] {0, 3, 10, 60}[seed % 4];
        spread = new int[] {2, 3, 8, 1000}[seed / 4 % 4];
    }

    public static void main(String[] args) {
        Expect expect = new Expect();
        for (int seed = 0; seed < 600 && expect.wrong() < 20; seed++) {
            new ModelTest(expect, seed).go();
        }
        expect.end();
    }

    /** A number below a bound, or now and then any. */
    private int num(int below) {
        if (random.nextInt(100) < wildness) return WILD[random.nextInt(WILD.length)];
        int edge = random.nextInt(40);
        if (edge == 0) return -1;
        if (edge == 1) return below;
        return random.nextInt(Math.max(1, below));
    }

    private int value() {
        int kind = random.nextInt(60);
        if (kind == 0) return Integer.MIN_VALUE;
        if (kind == 1) return Integer.MAX_VALUE;
        return random.nextInt(spread) - spread / 2;
    }

    private int items() {
        return Math.max(1, model.count(0));
    }

    private int nodes() {
        return Math.max(1, model.count(9));
    }

    private int someRow() {
        return num(4);
    }

    private void due(String call, long got, long want) {
        expect.due(run + call, got, want);
    }

    private void go() {
        int calls = wildness == 60 ? 0 : fillRow() + tellTree();
        while (calls < CALLS - 60) {
            int kind = random.nextInt(40);
            if (kind == 0) calls += fillRow();
            else if (kind == 1) calls += tellTree();
            else if (kind == 2) calls += putAndUndo();
            else calls += oneCall(random.nextInt(34));
            told();
            calls += 3;
        }
        due("digest()", real.digest(), model.digest());
    }

    private void told() {
        due("asked()", real.asked(), model.asked());
        due("finding()", real.finding(), model.finding());
        due("digest()", real.digest(), model.digest());
    }

    private int fillRow() {
        int r = random.nextInt(4);
        int n = random.nextInt(5) == 0 ? 48 : random.nextInt(49);
        due("row", real.row(r, n), model.row(r, n));
        for (int i = 0; i < n; i++) {
            int v = value();
            due("lay", real.lay(r, i, v), model.lay(r, i, v));
        }
        int b = 1 + random.nextInt(6);
        due("build", real.build(r, b), model.build(r, b));
        return n + 2;
    }

    /** More puts than are known, then some of them undone, perhaps once too often. */
    private int putAndUndo() {
        int puts = 8 + random.nextInt(6);
        int undos = random.nextInt(13);
        for (int k = 0; k < puts; k++) {
            int i = num(items()), v = value();
            due("put(" + i + ", " + v + ")", real.put(i, v), model.put(i, v));
        }
        due("count(7)", real.count(7), model.count(7));
        for (int k = 0; k < undos; k++) {
            due("undo()", real.undo(), model.undo());
            due("digest()", real.digest(), model.digest());
        }
        return puts + 1 + 2 * undos;
    }

    private int tellTree() {
        int r = random.nextInt(4);
        int n = 1 + random.nextInt(24);
        int[] names = new int[n];
        for (int k = 0; k < n; k++) {
            int other = random.nextInt(k + 1);
            names[k] = names[other];
            names[other] = k;
        }
        due("row", real.row(r, n), model.row(r, n));
        int back = random.nextBoolean() ? 1 : n;
        for (int k = 0; k < n; k++) {
            int above = k == 0 ? -1 : names[Math.max(0, k - 1 - random.nextInt(Math.min(back, k)))];
            due("lay", real.lay(r, names[k], above), model.lay(r, names[k], above));
        }
        if (random.nextInt(3) == 0) {
            int i = random.nextInt(n);
            int v = random.nextInt(n + 3) - 2;
            due("lay", real.lay(r, i, v), model.lay(r, i, v));
        }
        due("tree(" + r + ")", real.tree(r), model.tree(r));
        return n + 3;
    }

    private int oneCall(int which) {
        int i = num(items());
        int j = num(items());
        int u = num(nodes());
        int v = num(nodes());
        switch (which) {
            case 0: { int r = someRow(), n = num(49); due("row(" + r + ", " + n + ")", real.row(r, n), model.row(r, n)); break; }
            case 1: { int r = someRow(), p = num(48), x = value(); due("lay(" + r + ", " + p + ", " + x + ")", real.lay(r, p, x), model.lay(r, p, x)); break; }
            case 2: { int r = someRow(), p = num(48); due("at(" + r + ", " + p + ")", real.at(r, p), model.at(r, p)); break; }
            case 3: { int r = someRow(); due("tear(" + r + ")", real.tear(r), model.tear(r)); break; }
            case 4: case 5: {
                int r = someRow(), to = someRow(), a = num(24), b = num(24), n = num(24);
                due("copy(" + r + ", " + a + ", " + to + ", " + b + ", " + n + ")", real.copy(r, a, to, b, n), model.copy(r, a, to, b, n));
                break;
            }
            case 6: { int r = someRow(), b = num(7); due("build(" + r + ", " + b + ")", real.build(r, b), model.build(r, b)); break; }
            case 7: case 8: case 9: { int x = value(); due("put(" + i + ", " + x + ")", real.put(i, x), model.put(i, x)); break; }
            case 10: case 11: due("undo()", real.undo(), model.undo()); break;
            case 12: { int k = num(2); due("keep(" + k + ")", real.keep(k), model.keep(k)); break; }
            case 13: { int k = num(2); due("on(" + k + ")", real.on(k), model.on(k)); break; }
            case 14: due("item(" + i + ")", real.item(i), model.item(i)); break;
            case 15: { int k = num(Math.max(1, model.count(2))); due("shape(" + k + ")", real.shape(k), model.shape(k)); break; }
            case 16: case 17: {
                int shape = random.nextInt(4) == 0 ? num(4096) : model.shape(random.nextInt(Math.max(1, model.count(2))));
                if (shape < 0) real.shape(0);
                int a = num(6), b = num(6);
                due("entry(" + shape + ", " + a + ", " + b + ")", real.entry(shape, a, b), model.entry(shape, a, b));
                break;
            }
            case 18: due("least(" + i + ", " + j + ")", real.least(i, j), model.least(i, j)); break;
            case 19: { int k = num(items()); due("kth(" + i + ", " + j + ", " + k + ")", real.kth(i, j, k), model.kth(i, j, k)); break; }
            case 20: due("left(" + i + ")", real.left(i), model.left(i)); break;
            case 21: due("right(" + i + ")", real.right(i), model.right(i)); break;
            case 22: due("owns(" + i + ")", real.owns(i), model.owns(i)); break;
            case 23: due("sum()", real.sum(), model.sum()); break;
            case 24: due("parent(" + i + ")", real.parent(i), model.parent(i)); break;
            case 25: due("depth(" + i + ")", real.depth(i), model.depth(i)); break;
            case 26: due("size(" + i + ")", real.size(i), model.size(i)); break;
            case 27: { int d = num(8); due("above(" + i + ", " + d + ")", real.above(i, d), model.above(i, d)); break; }
            case 28: { int n = num(random.nextBoolean() ? 6 : items()); due("alike(" + i + ", " + j + ", " + n + ")", real.alike(i, j, n), model.alike(i, j, n)); break; }
            case 29: { int r = someRow(); due("tree(" + r + ")", real.tree(r), model.tree(r)); break; }
            case 30: due("meet(" + u + ", " + v + ")", real.meet(u, v), model.meet(u, v)); break;
            case 31: due("apart(" + u + ", " + v + ")", real.apart(u, v), model.apart(u, v)); break;
            case 32: { int d = num(8); due("up(" + u + ", " + d + ")", real.up(u, d), model.up(u, d)); break; }
            default: { int w = num(3); due("node(" + u + ", " + w + ")", real.node(u, w), model.node(u, w)); break; }
        }
        int what = num(10), f = 1 + num(4);
        due("count(" + what + ")", real.count(what), model.count(what));
        due("findings(" + f + ")", real.findings(f), model.findings(f));
        return 3;
    }
}
