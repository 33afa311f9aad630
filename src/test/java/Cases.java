import java.util.ArrayList;
import java.util.List;
import java.util.function.Supplier;
import java.util.function.ToLongFunction;

/** What the tests share: the document's numbers, objects made ready, how answers are looked at. */
abstract class Cases {
    static final int BAD = -1, STATE = -2, FINDING = -3, NONE = -9;
    static final int NOTHING = 1, BEYOND = 2, SIZE = 3, UNLIKE = 4;
    static final int MIN = Integer.MIN_VALUE, MAX = Integer.MAX_VALUE;
    static final int[] ITEMS = {5, 3, 8, 3, 9, 1, 1, 7, 2, 6, 2};
    static final int[] PARENTS = {3, 0, 0, -1, 3, 4, 4, 5, 5, 1};
    static final int[] NO_ROWS = {MIN, -5, -1, 4, 5, MAX};
    static final int[] BELOW_NONE = {MIN, MIN + 1, -49, -2, -1};
    /** No places among the items of ready(), which are 11. */
    static final int[] NO_ITEMS = {MIN, MIN + 1, -12, -1, 11, 12, 47, 48, MAX - 1, MAX};
    /** No nodes of the TREE of ready(), which are 10. */
    static final int[] NO_NODES = {MIN, MIN + 1, -11, -1, 10, 11, 23, 24, MAX - 1, MAX};

    static final Supplier<ShapeMinima> NEW = ShapeMinima::new, ROWS = Cases::withRows, READY = Cases::ready;

    static final Expect EXPECT = new Expect();

    static void sentence(String words) {
        EXPECT.sentence(words);
    }

    static void due(String call, long got, long want) {
        EXPECT.due(call, got, want);
    }

    /** A call that is refused by a finding: which, and that it was counted once. */
    static void found(String call, ShapeMinima x, int before, long got, int which) {
        due(call, got, FINDING);
        due(call + ", finding()", x.finding(), which);
        due(call + ", findings()", x.findings(which), before + 1);
    }

    static void isBad(String call, Supplier<ShapeMinima> made, ToLongFunction<ShapeMinima> refused) {
        Refusal.look(EXPECT, call, made, refused, BAD, 0);
    }

    static void isState(String call, Supplier<ShapeMinima> made, ToLongFunction<ShapeMinima> refused) {
        Refusal.look(EXPECT, call, made, refused, STATE, 0);
    }

    static void isFinding(int which, String call, Supplier<ShapeMinima> made, ToLongFunction<ShapeMinima> refused) {
        Refusal.look(EXPECT, call, made, refused, FINDING, which);
    }

    static ShapeMinima withRow(int r, int... ints) {
        ShapeMinima x = new ShapeMinima();
        layAll(x, r, ints);
        return x;
    }

    static void layAll(ShapeMinima x, int r, int... ints) {
        x.row(r, ints.length);
        for (int i = 0; i < ints.length; i++) {
            x.lay(r, i, ints[i]);
        }
    }

    static ShapeMinima withItems(int b, int... ints) {
        ShapeMinima x = withRow(0, ints);
        x.build(0, b);
        return x;
    }

    static ShapeMinima withTree(int... parents) {
        ShapeMinima x = withRow(2, parents);
        x.tree(2);
        return x;
    }

    /** ROW 0 is ITEMS, 1 is missing, 2 is PARENTS, 3 is empty; no INDEX, no TREE; asked() tells 9. */
    static ShapeMinima withRows() {
        ShapeMinima x = withRow(0, ITEMS);
        layAll(x, 2, PARENTS);
        x.row(3, 0);
        x.at(0, 4);
        return x;
    }

    /**
     * Something of everything, so that whatever a refused call might touch can be seen: the rows of
     * withRows(), items 4 3 8 3 9 9 1 7 2 6 2 in BLOCKS of 3 with two puts to undo, IMAGE 0 of three
     * items in BLOCKS of 2, IMAGE 1 not kept, a TREE, and each FINDING once, UNLIKE last; asked() tells 9.
     */
    static ShapeMinima ready() {
        ShapeMinima x = withRows();
        layAll(x, 3, 9, 9, 1);
        x.build(3, 2);
        x.keep(0);
        x.row(3, 0);
        x.build(0, 3);
        x.put(5, 9);
        x.put(0, 4);
        x.tree(2);
        x.at(1, 0);
        x.item(11);
        x.row(0, -1);
        x.tree(0);
        x.item(4);
        return x;
    }

    static void sameRow(String what, ShapeMinima x, int r, int... ints) {
        for (int i = 0; i < ints.length; i++) {
            due(what + ": at(" + r + ", " + i + ")", x.at(r, i), 1);
            due(what + ": place " + i, x.asked(), ints[i]);
        }
    }

    static void sameItems(String what, ShapeMinima x, int... ints) {
        due(what + ": how many items", x.count(0), ints.length);
        for (int i = 0; i < ints.length; i++) {
            due(what + ": item(" + i + ")", x.item(i), 1);
            due(what + ": item " + i, x.asked(), ints[i]);
        }
    }

    static void counts(String what, ShapeMinima x, int... want) {
        for (int k = 0; k < want.length; k++) {
            due(what + ": count(" + k + ")", x.count(k), want[k]);
        }
    }

    /** n ints from one on, each that many more than the one ahead of it. */
    static int[] steps(int n, int first, int step) {
        int[] ints = new int[n];
        for (int k = 0; k < n; k++) {
            ints[k] = first + k * step;
        }
        return ints;
    }

    /** All lists of n numbers 0 .. n - 1. */
    static List<List<Integer>> allOf(int n) {
        List<List<Integer>> all = new ArrayList<>();
        all.add(List.of());
        for (int k = 0; k < n; k++) {
            List<List<Integer>> longer = new ArrayList<>();
            for (List<Integer> some : all) {
                for (int v = 0; v < n; v++) {
                    List<Integer> more = new ArrayList<>(some);
                    more.add(v);
                    longer.add(more);
                }
            }
            all = longer;
        }
        return all;
    }

    static int[] ints(List<Integer> some) {
        return some.stream().mapToInt(v -> v).toArray();
    }

    /** What digest() makes of these. */
    static long fold(int... all) {
        long h = 17;
        for (int v : all) {
            h = 31 * h + v;
        }
        return h;
    }
}
