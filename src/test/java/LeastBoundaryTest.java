import java.util.Arrays;
import java.util.List;
import java.util.function.IntFunction;
import java.util.function.ToLongFunction;

/** The boundary cases of part 3, least places: promises 15 to 25. */
public final class LeastBoundaryTest extends Cases {
    /** The items of ready(), each way of BLOCKS. */
    private static final int[] THOSE = {4, 3, 8, 3, 9, 9, 1, 7, 2, 6, 2};

    private LeastBoundaryTest() {
    }

    public static void main(String[] args) {
        leastOfOne();
        leastIsTheFirst();
        leastOfTheFarthestInts();
        leastAcrossBlocks();
        leastRefused();
        kthFromTheFirstToTheLast();
        kthOfLikeOnes();
        kthRefusedForPlaces();
        kthRefusedForK();
        leftOfLikeOnes();
        leftNone();
        rightOfLikeOnes();
        rightNone();
        placesRefused();
        ownsOfOneAndOfAll();
        ownsOfLikeOnes();
        sumWithoutAnIndex();
        sumPastTheInts();
        sumOfOne();
        parentOfTheOneAboveAll();
        parentOfLikeOnes();
        allShortItems();
        depthsFromNoneToAll();
        sizesFromOneToAll();
        aboveByNone();
        aboveTheOneAboveAll();
        aboveRefused();
        alikeOfNone();
        alikeOfOneAndAll();
        alikeOfLikeOnes();
        alikeEitherWay();
        alikeLongOnes();
        alikeRefused();
        alikePastTheLargestInt();
        afterPutsAndUndo();
        EXPECT.end();
    }

    // ---- LEAST, K-TH

    private static void leastOfOne() {
        sentence("LEAST of items i .. j: the place of the least one");
        for (int b = 1; b <= 6; b++) {
            ShapeMinima x = withItems(b, THOSE);
            for (int i = 0; i < THOSE.length; i++) {
                due("least(" + i + ", " + i + ")", x.least(i, i), i);
                due("its item", x.asked(), THOSE[i]);
            }
            due("least of all", x.least(0, 10), 6);
            due("the least one", x.asked(), 1);
        }
    }

    private static void leastIsTheFirst() {
        sentence("the place of the least one, the first of several");
        for (int b = 1; b <= 6; b++) {
            ShapeMinima x = withItems(b, new int[48]);
            for (int i = 0; i < 48; i++) {
                due("least(" + i + ", 47) of like ones by " + b, x.least(i, 47), i);
            }
            ShapeMinima y = withItems(b, 2, 1, 2, 1, 2, 1, 2, 1, 2, 1, 2, 1);
            due("the first of six by " + b, y.least(0, 11), 1);
            due("the first of five by " + b, y.least(2, 11), 3);
            due("the last alone by " + b, y.least(10, 11), 11);
        }
    }

    private static void leastOfTheFarthestInts() {
        sentence("LEAST (a wrap-around)");
        for (int b = 1; b <= 6; b++) {
            due("MAX MIN", withItems(b, MAX, MIN).least(0, 1), 1);
            due("MIN MAX", withItems(b, MIN, MAX).least(0, 1), 0);
            due("1 MIN", withItems(b, 1, MIN).least(0, 1), 1);
            due("-2 MAX", withItems(b, -2, MAX).least(0, 1), 0);
            due("MAX MAX MAX", withItems(b, MAX, MAX, MAX).least(1, 2), 1);
        }
    }

    private static void leastAcrossBlocks() {
        sentence("BLOCK k has items k times B ..");
        for (int b = 1; b <= 6; b++) {
            ShapeMinima falling = withItems(b, steps(18, 40, -2));
            for (int i = 0; i < 18; i++) {
                for (int j = i; j < 18; j++) {
                    due("falling by " + b + ": least(" + i + ", " + j + ")", falling.least(i, j), j);
                }
            }
            ShapeMinima rising = withItems(b, steps(18, -40, 2));
            for (int i = 0; i < 18; i++) {
                for (int j = i; j < 18; j++) {
                    due("rising by " + b + ": least(" + i + ", " + j + ")", rising.least(i, j), i);
                }
            }
        }
    }

    private static void leastRefused() {
        sentence("STATE: no INDEX; BEYOND: a place, j below i");
        isState("least(0, 0)", NEW, x -> x.least(0, 0));
        for (int k : NO_ITEMS) {
            isFinding(BEYOND, "least(" + k + ", 5)", READY, x -> x.least(k, 5));
            isFinding(BEYOND, "least(5, " + k + ")", READY, x -> x.least(5, k));
            isFinding(BEYOND, "least(" + k + ", " + k + ")", READY, x -> x.least(k, k));
        }
        isFinding(BEYOND, "least(5, 4)", READY, x -> x.least(5, 4));
        isFinding(BEYOND, "least(1, 0)", READY, x -> x.least(1, 0));
        isFinding(BEYOND, "least(10, 0)", READY, x -> x.least(10, 0));
        isFinding(BEYOND, "least(-1, 11)", READY, x -> x.least(-1, 11));
    }

    private static void kthFromTheFirstToTheLast() {
        sentence("the place of the k-th (0 .. )");
        ShapeMinima x = withItems(3, THOSE);
        due("kth(0, 10, 0)", x.kth(0, 10, 0), 6);
        due("the least one", x.asked(), 1);
        due("kth(0, 10, 10)", x.kth(0, 10, 10), 5);
        due("the most one", x.asked(), 9);
        due("kth(4, 4, 0)", x.kth(4, 4, 0), 4);
        due("kth(4, 6, 0)", x.kth(4, 6, 0), 6);
        due("kth(4, 6, 2)", x.kth(4, 6, 2), 5);
        ShapeMinima far = withItems(4, MAX, MIN, 0, MIN, MAX, -1, 1);
        int[] places = {1, 3, 5, 2, 6, 0, 4};
        for (int k = 0; k < places.length; k++) {
            due("kth(0, 6, " + k + ") of the farthest ints", far.kth(0, 6, k), places[k]);
        }
    }

    private static void kthOfLikeOnes() {
        sentence("of like ones the first first");
        for (int b = 1; b <= 6; b++) {
            ShapeMinima x = withItems(b, new int[48]);
            for (int k = 0; k < 48; k++) {
                due("kth(0, 47, " + k + ")", x.kth(0, 47, k), k);
            }
            due("kth(20, 30, 10)", x.kth(20, 30, 10), 30);
        }
    }

    private static void kthRefusedForPlaces() {
        sentence("K-TH; .. STATE; BEYOND");
        isState("kth(0, 0, 0)", NEW, x -> x.kth(0, 0, 0));
        for (int p : NO_ITEMS) {
            isFinding(BEYOND, "kth(" + p + ", 5, 0)", READY, x -> x.kth(p, 5, 0));
            isFinding(BEYOND, "kth(5, " + p + ", 0)", READY, x -> x.kth(5, p, 0));
        }
        isFinding(BEYOND, "kth(5, 4, 0)", READY, x -> x.kth(5, 4, 0));
        isFinding(BEYOND, "kth(5, 4, -1)", READY, x -> x.kth(5, 4, -1));
        // From MIN to MAX is 1 too few by wrap-around.
        isFinding(BEYOND, "kth(MIN, MAX, 0)", READY, x -> x.kth(MIN, MAX, 0));
        isFinding(BEYOND, "kth(MAX, MIN, 1)", READY, x -> x.kth(MAX, MIN, 1));
    }

    private static void kthRefusedForK() {
        sentence("BEYOND (k, too)");
        due("as many as there are", ready().kth(3, 7, 4), 5);
        for (int k : new int[] {MIN, -1, 5, 6, 11, MAX}) {
            isFinding(BEYOND, "kth(3, 7, " + k + ")", READY, x -> x.kth(3, 7, k));
        }
        isFinding(BEYOND, "kth(0, 10, 11)", READY, x -> x.kth(0, 10, 11));
        isFinding(BEYOND, "kth(10, 10, 1)", READY, x -> x.kth(10, 10, 1));
    }

    // ---- LEFT, RIGHT, OWNS, SUM

    private static void each(String call, IntFunction<Integer> got, int... want) {
        for (int i = 0; i < want.length; i++) {
            due(call + "(" + i + ")", got.apply(i), want[i]);
        }
    }

    private static void leftOfLikeOnes() {
        sentence("LEFT: the nearest place ahead of an item at which one is no more than it");
        ShapeMinima x = withItems(3, THOSE);
        each("left", x::left, NONE, NONE, 1, 1, 3, 4, NONE, 6, 6, 8, 8);
        ShapeMinima like = withItems(2, 5, 5, 6, 5);
        each("left of like ones", like::left, NONE, 0, 1, 1);
        ShapeMinima far = withItems(2, MIN, MAX, MIN, MAX, MAX);
        each("left of the farthest ints", far::left, NONE, 0, 0, 2, 3);
    }

    private static void leftNone() {
        sentence("LEFT .. NONE");
        ShapeMinima x = withItems(5, steps(48, 100, -1));
        for (int i = 0; i < 48; i++) {
            due("left(" + i + ") of falling ones", x.left(i), NONE);
        }
        due("left(0) of one", withItems(1, MAX).left(0), NONE);
        due("left(47) to the first place", withItems(6, firstLess()).left(47), 0);
    }

    /** 48 items: the first is the least, the others fall. */
    private static int[] firstLess() {
        int[] ints = steps(48, 100, -1);
        ints[0] = MIN;
        return ints;
    }

    private static void rightOfLikeOnes() {
        sentence("RIGHT: the nearest behind it at which one is less");
        ShapeMinima x = withItems(3, THOSE);
        each("right", x::right, 1, 6, 3, 6, 6, 6, NONE, 8, NONE, 10, NONE);
        ShapeMinima like = withItems(2, 5, 5, 6, 5, 4);
        each("right of like ones", like::right, 4, 4, 3, 4, NONE);
        ShapeMinima far = withItems(2, MAX, MAX, MIN, MAX, MIN);
        each("right of the farthest ints", far::right, 2, 2, NONE, 4, NONE);
    }

    private static void rightNone() {
        sentence("RIGHT .. NONE");
        ShapeMinima x = withItems(5, new int[48]);
        for (int i = 0; i < 48; i++) {
            due("right(" + i + ") of like ones", x.right(i), NONE);
        }
        due("right(0) of one", withItems(1, MAX).right(0), NONE);
        int[] last = steps(48, 0, 1);
        last[47] = -1;
        due("right(0) to the last place", withItems(6, last).right(0), 47);
    }

    private static void refusedFor(String call, IntFunction<ToLongFunction<ShapeMinima>> of) {
        isState(call + "(0), no INDEX", ROWS, of.apply(0));
        for (int i : NO_ITEMS) {
            isFinding(BEYOND, call + "(" + i + ")", READY, of.apply(i));
        }
    }

    private static void placesRefused() {
        sentence("STATE: no INDEX; BEYOND: a place");
        refusedFor("left", i -> x -> x.left(i));
        refusedFor("right", i -> x -> x.right(i));
        refusedFor("owns", i -> x -> x.owns(i));
        refusedFor("parent", i -> x -> x.parent(i));
        refusedFor("depth", i -> x -> x.depth(i));
        refusedFor("size", i -> x -> x.size(i));
        refusedFor("above by 0", i -> x -> x.above(i, 0));
        refusedFor("above by 1", i -> x -> x.above(i, 1));
    }

    private static void ownsOfOneAndOfAll() {
        sentence("OWNS: of all runs i .. j how many have the item as their LEAST");
        due("one alone", withItems(1, 7).owns(0), 1);
        int[] ints = steps(48, 100, 1);
        ints[23] = 0;
        due("the least one in the middle of 48", withItems(6, ints).owns(23), 24 * 25);
        ints[23] = 1000;
        due("the most one in the middle of 48", withItems(6, ints).owns(23), 1);
        ShapeMinima x = withItems(3, THOSE);
        each("owns", x::owns, 1, 10, 1, 6, 2, 1, 35, 1, 6, 1, 2);
    }

    private static void ownsOfLikeOnes() {
        sentence("as their LEAST (the first of several)");
        ShapeMinima x = withItems(6, new int[48]);
        for (int i = 0; i < 48; i++) {
            due("owns(" + i + ") of 48 like ones", x.owns(i), 48 - i);
        }
        ShapeMinima y = withItems(2, 1, 2, 1);
        each("owns of 1 2 1", y::owns, 3, 1, 2);
    }

    private static void sumWithoutAnIndex() {
        sentence("SUM; 0 without an INDEX");
        due("sum() of a new object", new ShapeMinima().sum(), 0);
        ShapeMinima rows = withRows();
        due("sum() with ROWS alone", rows.sum(), 0);
        due("it is not refused: finding()", rows.finding(), 0);
        ShapeMinima refused = withRows();
        refused.build(3, 1);
        due("sum() behind a build() that was refused", refused.sum(), 0);
    }

    private static void sumPastTheInts() {
        sentence("SUM: that of the LEAST items of all runs i .. j (past the largest int)");
        int[] most = new int[48];
        Arrays.fill(most, MAX);
        due("48 of MAX", withItems(6, most).sum(), 1176L * MAX);
        Arrays.fill(most, MIN);
        due("48 of MIN", withItems(6, most).sum(), 1176L * MIN);
        due("MAX MAX", withItems(1, MAX, MAX).sum(), 3L * MAX);
        due("MIN MAX", withItems(1, MIN, MAX).sum(), 2L * MIN + MAX);
        due("-3 answers no refusal", withItems(1, FINDING).sum(), FINDING);
    }

    private static void sumOfOne() {
        sentence("SUM: that of the LEAST items of all runs i .. j");
        due("one item", withItems(6, -7).sum(), -7);
        due("1 2 1", withItems(2, 1, 2, 1).sum(), 7);
        due("3 1 2", withItems(2, 3, 1, 2).sum(), 9);
        due("the items of ready()", withItems(3, THOSE).sum(), 151);
    }

    // ---- THE TREE over the items

    private static void parentOfTheOneAboveAll() {
        sentence("PARENT of an item; NONE (of the one above all)");
        ShapeMinima x = withItems(3, THOSE);
        each("parent", x::parent, 1, 6, 3, 1, 3, 4, NONE, 8, 6, 10, 8);
        due("one alone", withItems(1, 5).parent(0), NONE);
        due("the first of 48 rising ones", withItems(4, steps(48, 0, 1)).parent(0), NONE);
        due("the last of 48 falling ones", withItems(4, steps(48, 0, -1)).parent(47), NONE);
    }

    private static void parentOfLikeOnes() {
        sentence("above all of a run is its LEAST; below it, to the left, .. to the right the LEAST of those behind");
        ShapeMinima like = withItems(3, new int[48]);
        due("the first of like ones is above all", like.parent(0), NONE);
        for (int i = 1; i < 48; i++) {
            due("each of like ones is below the one ahead of it", like.parent(i), i - 1);
        }
        ShapeMinima x = withItems(3, 1, 2, 1, 2, 1);
        each("parent of 1 2 1 2 1", x::parent, NONE, 2, 0, 4, 2);
        ShapeMinima y = withItems(3, 2, 1, 2);
        each("parent of 2 1 2", y::parent, 1, NONE, 1);
        ShapeMinima far = withItems(2, MIN, MAX, 0);
        each("parent of MIN MAX 0", far::parent, NONE, 2, 0);
        ShapeMinima first = withItems(2, 1, 2, 0);
        each("parent of 1 2 0, the nearer to it the first place", first::parent, 2, 0, NONE);
        ShapeMinima last = withItems(2, 0, 2, 1);
        each("parent of 0 2 1, the nearer to it the last place", last::parent, NONE, 2, 0);
    }

    private static void allShortItems() {
        sentence("THE TREE over the items; LEFT; RIGHT; OWNS; SUM (of all short items)");
        for (int n = 1; n <= 5; n++) {
            for (List<Integer> some : allOf(n)) {
                ShapeMinima x = withItems(2, ints(some));
                Model model = modelOf(some);
                for (int i = 0; i < n; i++) {
                    due("left(" + i + ") of " + some, x.left(i), model.left(i));
                    due("right(" + i + ") of " + some, x.right(i), model.right(i));
                    due("owns(" + i + ") of " + some, x.owns(i), model.owns(i));
                    due("parent(" + i + ") of " + some, x.parent(i), model.parent(i));
                    due("depth(" + i + ") of " + some, x.depth(i), model.depth(i));
                    due("size(" + i + ") of " + some, x.size(i), model.size(i));
                }
                due("sum() of " + some, x.sum(), model.sum());
            }
        }
    }

    private static Model modelOf(List<Integer> some) {
        Model model = new Model();
        model.row(0, some.size());
        for (int i = 0; i < some.size(); i++) {
            model.lay(0, i, some.get(i));
        }
        model.build(0, 2);
        return model;
    }

    private static void depthsFromNoneToAll() {
        sentence("DEPTH: how many are above it");
        ShapeMinima rising = withItems(4, steps(48, 0, 1));
        ShapeMinima falling = withItems(4, steps(48, 0, -1));
        for (int i = 0; i < 48; i++) {
            due("rising: depth(" + i + ")", rising.depth(i), i);
            due("falling: depth(" + i + ")", falling.depth(i), 47 - i);
        }
        ShapeMinima x = withItems(3, THOSE);
        each("depth", x::depth, 2, 1, 3, 2, 3, 4, 0, 2, 1, 3, 2);
    }

    private static void sizesFromOneToAll() {
        sentence("SIZE: how many are below it, and 1");
        due("one alone", withItems(1, 5).size(0), 1);
        ShapeMinima rising = withItems(4, steps(48, 0, 1));
        ShapeMinima like = withItems(4, new int[48]);
        for (int i = 0; i < 48; i++) {
            due("rising: size(" + i + ")", rising.size(i), 48 - i);
            due("like ones: size(" + i + ")", like.size(i), 48 - i);
        }
        ShapeMinima x = withItems(3, THOSE);
        each("size", x::size, 1, 6, 1, 4, 2, 1, 11, 1, 4, 1, 2);
    }

    private static void aboveByNone() {
        sentence("ABOVE by d: the one that is d PARENTS up (d is 0)");
        ShapeMinima x = withItems(3, THOSE);
        for (int i = 0; i < THOSE.length; i++) {
            due("above(" + i + ", 0)", x.above(i, 0), i);
        }
    }

    private static void aboveTheOneAboveAll() {
        sentence("ABOVE by d: the one that is d PARENTS up; NONE");
        ShapeMinima x = withItems(3, THOSE);
        each("above(5, ..)", d -> x.above(5, d), 5, 4, 3, 1, 6, NONE, NONE);
        due("above(5, MAX)", x.above(5, MAX), NONE);
        due("above(6, 1)", x.above(6, 1), NONE);
        ShapeMinima line = withItems(3, new int[48]);
        due("above(47, 46)", line.above(47, 46), 1);
        due("above(47, 47)", line.above(47, 47), 0);
        due("above(47, 48)", line.above(47, 48), NONE);
        due("above(47, 49)", line.above(47, 49), NONE);
        due("above(0, 1) of one", withItems(1, 5).above(0, 1), NONE);
    }

    private static void aboveRefused() {
        sentence("BEYOND (also d below 0)");
        for (int d : BELOW_NONE) {
            isFinding(BEYOND, "above(5, " + d + ")", READY, x -> x.above(5, d));
            isFinding(BEYOND, "above(6, " + d + "), the one above all", READY, x -> x.above(6, d));
        }
    }

    // ---- ALIKE

    private static void alikeOfNone() {
        sentence("ALIKE: whether n items from i on have the SHAPE that n items from j on have (n is 0)");
        ShapeMinima x = withItems(3, THOSE);
        due("alike(2, 2, 0)", x.alike(2, 2, 0), 1);
        due("alike(0, 10, 0)", x.alike(0, 10, 0), 1);
        due("from one behind the last one, as copy() has it", x.alike(11, 0, 0), 1);
        due("to one behind the last one", x.alike(0, 11, 0), 1);
        isFinding(BEYOND, "alike(12, 0, 0)", READY, y -> y.alike(12, 0, 0));
        isFinding(BEYOND, "alike(0, 12, 0)", READY, y -> y.alike(0, 12, 0));
        isFinding(BEYOND, "alike(-1, 0, 0)", READY, y -> y.alike(-1, 0, 0));
        isFinding(BEYOND, "alike(0, -1, 0)", READY, y -> y.alike(0, -1, 0));
    }

    private static void alikeOfOneAndAll() {
        sentence("ALIKE: whether n items from i on have the SHAPE that n items from j on have");
        ShapeMinima x = withItems(3, THOSE);
        for (int j = 0; j < THOSE.length; j++) {
            due("one is like any one, alike(0, " + j + ", 1)", x.alike(0, j, 1), 1);
        }
        due("all of them", x.alike(0, 0, 11), 1);
        due("the last ten beside the first ten", x.alike(0, 1, 10), 0);
        due("the same ones", x.alike(4, 4, 7), 1);
        due("the last two", x.alike(7, 9, 2), 1);
        due("that share items", withItems(6, steps(48, 0, 1)).alike(0, 1, 47), 1);
    }

    private static void alikeOfLikeOnes() {
        sentence("each one on the pile that is more than it is taken off (ALIKE)");
        ShapeMinima x = withItems(2, 4, 4, 7, 8, 9, 3);
        due("like ones and rising ones", x.alike(0, 2, 2), 1);
        due("like ones and falling ones", x.alike(0, 4, 2), 0);
        ShapeMinima far = withItems(2, MAX, MIN, 2, 1, MIN, MAX);
        due("MAX MIN and 2 1", far.alike(0, 2, 2), 1);
        due("MAX MIN and MIN MAX", far.alike(0, 4, 2), 0);
        ShapeMinima ahead = withItems(6, 0, 5, 6, 9, 5, 6);
        due("what lies ahead of them has no part in it", ahead.alike(1, 4, 2), 1);
        ShapeMinima off = withItems(6, 2, 3, 1, 1, 3, 2);
        due("2 3 1 and 1 3 2: as many, another order", off.alike(0, 3, 3), 0);
    }

    private static void alikeEitherWay() {
        sentence("n items from i on .. n items from j on");
        ShapeMinima x = withItems(3, THOSE);
        for (int n = 0; n <= 5; n++) {
            for (int i = 0; i <= 5; i++) {
                for (int j = 0; j < i; j++) {
                    due("alike(" + i + ", " + j + ", " + n + ")", x.alike(i, j, n), x.alike(j, i, n));
                }
            }
        }
        due("alike(9, 7, 2)", x.alike(9, 7, 2), 1);
    }

    /** SHAPES of more items than an int or a long has digits, unlike in their first or last digits alone. */
    private static void alikeLongOnes() {
        sentence("SHAPE of some items (more digits than an int, a long has)");
        int[] ints = steps(48, 100, -1);
        System.arraycopy(ints, 0, ints, 24, 24);
        ShapeMinima x = withItems(6, ints);
        due("24 falling ones twice", x.alike(0, 24, 24), 1);
        x.put(0, 99);
        due("unlike at the first two", x.alike(0, 24, 24), 0);
        x.put(24, 99);
        due("both so", x.alike(0, 24, 24), 1);
        x.put(47, 1000);
        due("unlike at the last one", x.alike(0, 24, 24), 0);
        due("all but the last one", x.alike(0, 24, 23), 1);
        int[] rising = steps(48, 0, 1);
        rising[47] = 0;
        ShapeMinima y = withItems(6, rising);
        due("47 rising ones and 46 with a like one behind", y.alike(0, 1, 47), 0);
        due("46 of each", y.alike(0, 1, 46), 1);
    }

    private static void alikeRefused() {
        sentence("ALIKE: 1, 0. STATE; BEYOND (also n below 0).");
        isState("alike(0, 0, 1)", NEW, x -> x.alike(0, 0, 1));
        for (int n : BELOW_NONE) {
            isFinding(BEYOND, "alike(0, 0, " + n + ")", READY, x -> x.alike(0, 0, n));
            isFinding(BEYOND, "alike(5, 5, " + n + ")", READY, x -> x.alike(5, 5, n));
        }
        for (int p : NO_ITEMS) {
            isFinding(BEYOND, "alike(" + p + ", 0, 1)", READY, x -> x.alike(p, 0, 1));
            isFinding(BEYOND, "alike(0, " + p + ", 1)", READY, x -> x.alike(0, p, 1));
        }
        due("as many as fit", ready().alike(0, 7, 4), 1);
        isFinding(BEYOND, "alike(0, 7, 5)", READY, x -> x.alike(0, 7, 5));
        isFinding(BEYOND, "alike(7, 0, 5)", READY, x -> x.alike(7, 0, 5));
        isFinding(BEYOND, "alike(0, 0, 12)", READY, x -> x.alike(0, 0, 12));
        isFinding(BEYOND, "alike(0, 1, 11)", READY, x -> x.alike(0, 1, 11));
        isFinding(BEYOND, "alike(1, 0, 11)", READY, x -> x.alike(1, 0, 11));
    }

    private static void alikePastTheLargestInt() {
        sentence("BEYOND: a place (a wrap-around)");
        isFinding(BEYOND, "alike(1, 1, MAX)", READY, x -> x.alike(1, 1, MAX));
        isFinding(BEYOND, "alike(0, 1, MAX)", READY, x -> x.alike(0, 1, MAX));
        isFinding(BEYOND, "alike(MAX, 0, 1)", READY, x -> x.alike(MAX, 0, 1));
        isFinding(BEYOND, "alike(0, MAX, 1)", READY, x -> x.alike(0, MAX, 1));
        isFinding(BEYOND, "alike(MAX, MAX, MAX)", READY, x -> x.alike(MAX, MAX, MAX));
        isFinding(BEYOND, "alike(MIN, MIN, MIN)", READY, x -> x.alike(MIN, MIN, MIN));
        isFinding(BEYOND, "alike(MIN, MIN, MAX)", READY, x -> x.alike(MIN, MIN, MAX));
    }

    private static void afterPutsAndUndo() {
        sentence("An item becomes another number");
        ShapeMinima x = withItems(3, THOSE);
        x.put(6, MAX);
        due("least(0, 10)", x.least(0, 10), 8);
        due("parent(8)", x.parent(8), NONE);
        due("right(1)", x.right(1), 8);
        due("depth(6)", x.depth(6), 6);
        due("alike(5, 6, 3)", x.alike(5, 6, 3), 0);
        x.undo();
        due("least(0, 10), undone", x.least(0, 10), 6);
        due("parent(8), undone", x.parent(8), 6);
        due("sum(), undone", x.sum(), 151);
    }
}
