/** For each promise of the document: ordinary inputs, edges, wrong inputs. */
public final class PromisesTest extends Cases {
    private PromisesTest() {
    }

    public static void main(String[] args) {
        constants();
        promise1NewObject();
        promise2Row();
        promise3Lay();
        promise4At();
        promise5Tear();
        promise6Copy();
        promise7Build();
        promise8Put();
        promise9Undo();
        promise10Keep();
        promise11On();
        promise12Item();
        promise13Shape();
        promise14Entry();
        promise15Least();
        promise16Kth();
        promise17Left();
        promise18Right();
        promise19Owns();
        promise20Sum();
        promise21Parent();
        promise22Depth();
        promise23Size();
        promise24Above();
        promise25Alike();
        promise26Tree();
        promise27Meet();
        promise28Apart();
        promise29Up();
        promise30Node();
        promise31Asked();
        promise32Count();
        promise33Finding();
        promise34Findings();
        promise35Digest();
        EXPECT.end();
    }

    private static void constants() {
        due("BAD", ShapeMinima.BAD, BAD);
        due("STATE", ShapeMinima.STATE, STATE);
        due("FINDING", ShapeMinima.FINDING, FINDING);
        due("NONE", ShapeMinima.NONE, NONE);
    }

    private static void promise1NewObject() {
        ShapeMinima x = new ShapeMinima();
        for (int what = 0; what < 10; what++) {
            due("new: count(" + what + ")", x.count(what), 0);
        }
        due("new: asked()", x.asked(), 0);
        due("new: finding()", x.finding(), 0);
        due("new: sum()", x.sum(), 0);
        due("new: undo()", x.undo(), STATE);
        due("new: on(0)", x.on(0), STATE);
        due("new: on(1)", x.on(1), STATE);
        for (int f = 1; f <= 4; f++) {
            due("new: findings(" + f + ")", x.findings(f), 0);
        }
        for (int r = 0; r < 4; r++) {
            found("new: at(" + r + ", 0)", x, r, x.at(r, 0), NOTHING);
        }
    }

    private static void promise2Row() {
        ShapeMinima x = new ShapeMinima();
        due("row(0, 0)", x.row(0, 0), 0);
        due("row(3, 48)", x.row(3, 48), 48);
        due("lay(3, 47, 9)", x.lay(3, 47, 9), 1);
        due("row(3, 48) anew", x.row(3, 48), 48);
        due("at(3, 47)", x.at(3, 47), 1);
        due("row is of 0", x.asked(), 0);
        due("row(3, 5)", x.row(3, 5), 5);
        found("at(3, 5)", x, 0, x.at(3, 5), BEYOND);
        due("row(4, 1)", x.row(4, 1), BAD);
        due("row(-1, 1)", x.row(-1, 1), BAD);
        due("row(0, 49)", x.row(0, 49), BAD);
        due("row(0, MAX)", x.row(0, MAX), BAD);
        due("row(4, -1)", x.row(4, -1), BAD);
        found("row(0, -1)", x, 0, x.row(0, -1), SIZE);
        found("row(3, MIN)", x, 1, x.row(3, MIN), SIZE);
        due("refused row changed nothing", x.at(3, 4), 1);
    }

    private static void promise3Lay() {
        ShapeMinima x = withRow(1, 4, 5, 6);
        due("lay(1, 2, MIN)", x.lay(1, 2, MIN), 1);
        due("lay tells", x.asked(), 6);
        due("lay(1, 2, 7)", x.lay(1, 2, 7), 1);
        due("lay tells MIN", x.asked(), MIN);
        due("lay(-1, 0, 0)", x.lay(-1, 0, 0), BAD);
        due("lay(4, 0, 0)", x.lay(4, 0, 0), BAD);
        found("lay(0, 9, 0)", x, 0, x.lay(0, 9, 0), NOTHING);
        found("lay(1, 3, 0)", x, 0, x.lay(1, 3, 0), BEYOND);
        found("lay(1, -1, 0)", x, 1, x.lay(1, -1, 0), BEYOND);
        found("lay(1, MIN, 0)", x, 2, x.lay(1, MIN, 0), BEYOND);
        due("asked() as before", x.asked(), MIN);
    }

    private static void promise4At() {
        ShapeMinima x = withRow(1, 4, MAX, 6);
        due("at(1, 1)", x.at(1, 1), 1);
        due("at tells", x.asked(), MAX);
        due("at(1, 0)", x.at(1, 0), 1);
        due("at tells the first", x.asked(), 4);
        due("at(4, 0)", x.at(4, 0), BAD);
        due("at(MIN, 0)", x.at(MIN, 0), BAD);
        found("at(2, -1)", x, 0, x.at(2, -1), NOTHING);
        found("at(1, 3)", x, 0, x.at(1, 3), BEYOND);
        found("at(1, MAX)", x, 1, x.at(1, MAX), BEYOND);
        due("asked() as before", x.asked(), 4);
    }

    private static void promise5Tear() {
        ShapeMinima x = withRow(1, 4, 5, 6);
        x.row(2, 0);
        due("tear(1)", x.tear(1), 3);
        due("tear(2)", x.tear(2), 0);
        due("count(8)", x.count(8), 0);
        found("tear(1) again", x, 0, x.tear(1), NOTHING);
        due("tear(4)", x.tear(4), BAD);
        due("tear(-1)", x.tear(-1), BAD);
        due("row(1, 2)", x.row(1, 2), 2);
        due("at(1, 0)", x.at(1, 0), 1);
        due("0 again", x.asked(), 0);
    }

    private static void promise6Copy() {
        ShapeMinima x = withRow(0, 1, 2, 3, 4, 5, 6);
        due("copy ahead in itself", x.copy(0, 0, 0, 1, 5), 5);
        sameRow("copied ahead", x, 0, 1, 1, 2, 3, 4, 5);
        due("copy back in itself", x.copy(0, 2, 0, 0, 4), 4);
        sameRow("copied back", x, 0, 2, 3, 4, 5, 4, 5);
        layAll(x, 3, 7, 8, 9);
        due("copy to another", x.copy(3, 1, 0, 4, 2), 2);
        sameRow("copied", x, 0, 2, 3, 4, 5, 8, 9);
        sameRow("copied from", x, 3, 7, 8, 9);
        due("none, from the end", x.copy(0, 6, 3, 3, 0), 0);
        due("copy(4, ..)", x.copy(4, 0, 0, 0, 0), BAD);
        due("copy(.., -1, ..)", x.copy(0, 0, -1, 0, 0), BAD);
        due("BAD ahead of NOTHING", x.copy(1, 0, 4, 0, 0), BAD);
        found("from a missing one", x, 0, x.copy(1, 0, 0, 0, -1), NOTHING);
        found("to a missing one", x, 1, x.copy(0, 9, 1, 0, 1), NOTHING);
        found("n below 0", x, 0, x.copy(0, 0, 3, 0, -1), BEYOND);
        found("not so many to take", x, 1, x.copy(3, 1, 0, 0, 3), BEYOND);
        found("not so many to lay", x, 2, x.copy(0, 0, 3, 1, 3), BEYOND);
        found("none, behind the end", x, 3, x.copy(0, 7, 3, 0, 0), BEYOND);
        found("none, to behind the end", x, 4, x.copy(0, 0, 3, 4, 0), BEYOND);
        found("from -1", x, 5, x.copy(0, -1, 3, 0, 1), BEYOND);
        found("to -1", x, 6, x.copy(0, 0, 3, -1, 1), BEYOND);
        found("past the largest int", x, 7, x.copy(0, MAX, 3, 0, MAX), BEYOND);
        found("past the largest int, too", x, 8, x.copy(0, 1, 3, 1, MAX), BEYOND);
        found("MIN", x, 9, x.copy(0, MIN, 3, MIN, MIN), BEYOND);
        sameRow("refused, as before", x, 0, 2, 3, 4, 5, 8, 9);
        sameRow("refused, as before", x, 3, 7, 8, 9);
    }

    private static void promise7Build() {
        ShapeMinima x = withRow(0, ITEMS);
        int[] blocks = {11, 6, 4, 3, 3, 2};
        for (int b = 1; b <= 6; b++) {
            due("build(0, " + b + ")", x.build(0, b), blocks[b - 1]);
        }
        x.lay(0, 0, 77);
        x.item(0);
        due("items are as they were when built", x.asked(), 5);
        x.put(0, 1);
        due("build forgets what may be undone", x.build(0, 6), 2);
        due("undo()", x.undo(), STATE);
        due("tables are made anew", x.count(5), 2);
        x.row(1, 0);
        x.row(3, 48);
        due("build(3, 1)", x.build(3, 1), 48);
        due("build(3, 0)", x.build(3, 0), BAD);
        due("build(3, 7)", x.build(3, 7), BAD);
        due("build(4, 1)", x.build(4, 1), BAD);
        due("build(-1, 1)", x.build(-1, 1), BAD);
        due("build(2, 7)", x.build(2, 7), BAD);
        x.put(0, 4);
        found("build(2, 1)", x, 0, x.build(2, 1), NOTHING);
        found("build(1, 1)", x, 0, x.build(1, 1), SIZE);
        due("refused, as before", x.count(0), 48);
        due("refused, may still be undone", x.count(7), 1);
    }

    private static void promise8Put() {
        due("put without an index", new ShapeMinima().put(0, 0), STATE);
        ShapeMinima x = withItems(3, ITEMS);
        due("put(5, 9)", x.put(5, 9), 1);
        due("put tells", x.asked(), 1);
        due("put(5, 9) again", x.put(5, 9), 0);
        due("put tells again", x.asked(), 9);
        due("put(10, MIN)", x.put(10, MIN), 0);
        due("least of all", x.least(0, 10), 10);
        due("shape as the item has it", x.shape(1), 15);
        due("a table more", x.count(5), 5);
        found("put(11, 0)", x, 0, x.put(11, 0), BEYOND);
        found("put(-1, 0)", x, 1, x.put(-1, 0), BEYOND);
        due("refused, none more to undo", x.count(7), 3);
        due("the row stays", x.at(0, 5), 1);
        due("the row's int", x.asked(), 1);
        ShapeMinima equal = withItems(2, 4, 4);
        due("put(0, 3): like ones have the shape of rising ones", equal.put(0, 3), 0);
        due("put(0, 5)", equal.put(0, 5), 1);
        due("put(1, 5)", equal.put(1, 5), 1);
    }

    private static void promise9Undo() {
        ShapeMinima x = withItems(6, ITEMS);
        long before = x.digest();
        due("undo() of none", x.undo(), STATE);
        x.put(3, 30);
        x.put(3, 31);
        x.put(4, MIN);
        due("undo()", x.undo(), 2);
        x.item(4);
        due("item 4 undone", x.asked(), 9);
        due("undo() 2", x.undo(), 1);
        x.item(3);
        due("item 3 undone once", x.asked(), 30);
        due("undo() 3", x.undo(), 0);
        due("undo() 4", x.undo(), STATE);
        x.item(3);
        due("item 3 undone twice", x.asked(), 3);
        due("shape as it was", x.shape(0), 3505);
        due("tables made stay", x.count(5) >= 3 ? 1 : 0, 1);
        due("digest is another (tables)", before == x.digest() ? 1 : 0, 0);
        for (int k = 0; k < 13; k++) {
            x.put(0, 100 + k);
            due("may be undone", x.count(7), Math.min(10, k + 1));
        }
        for (int k = 9; k >= 0; k--) {
            due("undo() of ten", x.undo(), k);
        }
        due("undo() of an older one", x.undo(), STATE);
        x.item(0);
        due("the older ones stay", x.asked(), 102);
        undoneInOrder();
    }

    /** Twelve puts at places of their own, in blocks of one: ten come back, two stay. */
    private static void undoneInOrder() {
        ShapeMinima x = withItems(1, 0, 1, 2, 3, 4, 5, 6, 7, 8, 9, 10, 11);
        for (int i = 0; i < 12; i++) {
            due("put in a block of one", x.put(i, 50 + i), 0);
        }
        for (int k = 9; k >= 0; k--) {
            due("undo()", x.undo(), k);
        }
        for (int i = 0; i < 12; i++) {
            x.item(i);
            due("item " + i, x.asked(), i < 2 ? 50 + i : i);
        }
    }

    private static void promise10Keep() {
        ShapeMinima x = new ShapeMinima();
        due("keep without an index", x.keep(0), STATE);
        due("keep(2) without an index", x.keep(2), BAD);
        x = withItems(3, ITEMS);
        x.put(0, 50);
        due("keep(0)", x.keep(0), 11);
        due("keep(1)", x.keep(1), 11);
        due("may still be undone", x.count(7), 1);
        due("keep(2)", x.keep(2), BAD);
        due("keep(-1)", x.keep(-1), BAD);
        x.put(0, 51);
        due("on(0)", x.on(0), 11);
        x.item(0);
        due("kept as it was then", x.asked(), 50);
        x.put(0, 52);
        due("keep(0) over the older one", x.keep(0), 11);
        due("on(1)", x.on(1), 11);
        due("on(0)", x.on(0), 11);
        x.item(0);
        due("the later one", x.asked(), 52);
    }

    private static void promise11On() {
        ShapeMinima x = withItems(3, ITEMS);
        due("on(0) of none", x.on(0), STATE);
        due("on(2)", x.on(2), BAD);
        due("on(-1)", x.on(-1), BAD);
        x.keep(1);
        due("on(0) of none, 1 kept", x.on(0), STATE);
        layAll(x, 1, 9, 9, 1);
        x.build(1, 1);
        x.keep(0);
        x.put(0, 0);
        due("on(1)", x.on(1), 11);
        due("B as it was", x.count(1), 3);
        due("blocks as they were", x.count(2), 4);
        due("tables made anew", x.count(5), 4);
        due("none to undo", x.undo(), STATE);
        due("least", x.least(0, 10), 5);
        due("on(0)", x.on(0), 3);
        due("B of the other", x.count(1), 1);
        due("least of the other", x.least(0, 2), 2);
        x.put(2, 77);
        due("on(0) again", x.on(0), 3);
        due("the image stays", x.least(0, 2), 2);
    }

    private static void promise12Item() {
        due("item without an index", new ShapeMinima().item(0), STATE);
        ShapeMinima x = withItems(4, ITEMS);
        for (int i = 0; i < ITEMS.length; i++) {
            due("item(" + i + ")", x.item(i), 1);
            due("item tells", x.asked(), ITEMS[i]);
        }
        found("item(11)", x, 0, x.item(11), BEYOND);
        found("item(-1)", x, 1, x.item(-1), BEYOND);
        due("asked() as before", x.asked(), 2);
    }

    private static void promise13Shape() {
        due("shape without an index", new ShapeMinima().shape(0), STATE);
        ShapeMinima x = withItems(3, ITEMS);
        int[] shapes = {27, 57, 29, 13};
        for (int k = 0; k < 4; k++) {
            due("shape(" + k + ")", x.shape(k), shapes[k]);
        }
        found("shape(4)", x, 0, x.shape(4), BEYOND);
        found("shape(-1)", x, 1, x.shape(-1), BEYOND);
        ShapeMinima y = withItems(6, 6, 5, 4, 3, 2, 1, 1, 1, 1, 1, 1, 1, MAX, MIN);
        due("falling", y.shape(0), 3413);
        due("like ones", y.shape(1), 127);
        due("the last, shorter one", y.shape(2), 13);
        ShapeMinima z = withItems(6, 1, 2, 3, 4, 5, 0);
        due("all taken off at last", z.shape(0), 4033);
    }

    private static void promise14Entry() {
        ShapeMinima x = new ShapeMinima();
        due("entry without an index", x.entry(3, 0, 0), STATE);
        due("entry(-5, 9, 0) without an index", x.entry(-5, 9, 0), STATE);
        x = withItems(6, 5, 3, 8, 3, 9, 1, 4);
        int shape = x.shape(0);
        int[][] least = {{0, 1, 1, 1, 1, 5}, {1, 1, 1, 1, 5}, {2, 3, 3, 5}, {3, 3, 5}, {4, 5}, {5}};
        for (int i = 0; i < 6; i++) {
            for (int j = i; j < 6; j++) {
                due("entry(.., " + i + ", " + j + ")", x.entry(shape, i, j), least[i][j - i]);
            }
        }
        found("entry j below i", x, 0, x.entry(shape, 2, 1), BEYOND);
        found("entry i below 0", x, 1, x.entry(shape, -1, 1), BEYOND);
        found("entry j beyond", x, 2, x.entry(shape, 0, 6), BEYOND);
        due("entry of the shorter block", x.entry(3, 0, 0), 0);
        found("entry beyond the shorter block", x, 3, x.entry(3, 0, 1), BEYOND);
        for (int none : new int[] {0, 1, 2, 7, 127, 4095, 4096, MAX, MIN, -1, shape + 4096}) {
            due("entry(" + none + ", 9, 0)", x.entry(none, 9, 0), BAD);
        }
        x.put(5, 10);
        due("the older shape's table is kept", x.entry(shape, 0, 5), 5);
        due("the newer shape's table is made", x.entry(x.shape(0), 0, 5), 1);
        x.row(1, 6);
        x.build(1, 6);
        due("tables go when built anew", x.entry(shape, 0, 5), BAD);
    }

    private static void promise15Least() {
        due("least without an index", new ShapeMinima().least(0, 0), STATE);
        for (int b = 1; b <= 6; b++) {
            ShapeMinima x = withItems(b, ITEMS);
            due("least(0, 10)", x.least(0, 10), 5);
            due("least tells", x.asked(), 1);
            due("least(1, 4)", x.least(1, 4), 1);
            due("least tells 3", x.asked(), 3);
            due("least(6, 10)", x.least(6, 10), 6);
            due("least(7, 10)", x.least(7, 10), 8);
            due("least(4, 4)", x.least(4, 4), 4);
            due("least tells 9", x.asked(), 9);
            found("least(4, 3)", x, 0, x.least(4, 3), BEYOND);
            found("least(0, 11)", x, 1, x.least(0, 11), BEYOND);
            found("least(-1, 0)", x, 2, x.least(-1, 0), BEYOND);
            found("least(11, 11)", x, 3, x.least(11, 11), BEYOND);
            due("asked() as before", x.asked(), 9);
        }
        ShapeMinima ends = withItems(2, 0, MAX, MIN, MIN, 0);
        due("MIN is less than MAX", ends.least(0, 4), 2);
        due("MIN told", ends.asked(), MIN);
    }

    private static void promise16Kth() {
        due("kth without an index", new ShapeMinima().kth(0, 0, 0), STATE);
        ShapeMinima x = withItems(3, ITEMS);
        int[] places = {5, 6, 8, 10, 1, 3, 0, 9, 7, 2, 4};
        for (int k = 0; k < places.length; k++) {
            due("kth(0, 10, " + k + ")", x.kth(0, 10, k), places[k]);
            due("kth tells", x.asked(), ITEMS[places[k]]);
        }
        due("kth(7, 7, 0)", x.kth(7, 7, 0), 7);
        due("kth(2, 4, 2)", x.kth(2, 4, 2), 4);
        found("kth k too many", x, 0, x.kth(2, 4, 3), BEYOND);
        found("kth k below 0", x, 1, x.kth(2, 4, -1), BEYOND);
        found("kth j below i", x, 2, x.kth(4, 2, 0), BEYOND);
        found("kth j beyond", x, 3, x.kth(0, 11, 0), BEYOND);
        found("kth i beyond", x, 4, x.kth(-1, 4, 0), BEYOND);
        due("asked() as before", x.asked(), 9);
    }

    private static void eachItem(String call, int[] got, int... want) {
        for (int i = 0; i < want.length; i++) {
            due(call + "(" + i + ")", got[i], want[i]);
        }
    }

    private static void promise17Left() {
        due("left without an index", new ShapeMinima().left(0), STATE);
        ShapeMinima x = withItems(3, ITEMS);
        int[] got = new int[11];
        for (int i = 0; i < 11; i++) {
            got[i] = x.left(i);
        }
        eachItem("left", got, NONE, NONE, 1, 1, 3, NONE, 5, 6, 6, 8, 8);
        found("left(11)", x, 0, x.left(11), BEYOND);
        found("left(-1)", x, 1, x.left(-1), BEYOND);
        due("left at the first place", withItems(2, 4, 4, 5).left(2), 1);
        due("left of the second, like it", withItems(2, 4, 4, 5).left(1), 0);
    }

    private static void promise18Right() {
        due("right without an index", new ShapeMinima().right(0), STATE);
        ShapeMinima x = withItems(3, ITEMS);
        int[] got = new int[11];
        for (int i = 0; i < 11; i++) {
            got[i] = x.right(i);
        }
        eachItem("right", got, 1, 5, 3, 5, 5, NONE, NONE, 8, NONE, 10, NONE);
        found("right(11)", x, 0, x.right(11), BEYOND);
        found("right(-1)", x, 1, x.right(-1), BEYOND);
    }

    private static void promise19Owns() {
        due("owns without an index", new ShapeMinima().owns(0), STATE);
        ShapeMinima x = withItems(3, ITEMS);
        int[] got = new int[11];
        for (int i = 0; i < 11; i++) {
            got[i] = x.owns(i);
        }
        eachItem("owns", got, 1, 8, 1, 4, 1, 36, 5, 1, 6, 1, 2);
        found("owns(11)", x, 0, x.owns(11), BEYOND);
        found("owns(-1)", x, 1, x.owns(-1), BEYOND);
        ShapeMinima all = withItems(6, new int[48]);
        due("the first of like ones owns", all.owns(0), 48);
        due("the last of like ones owns", all.owns(47), 1);
    }

    private static void promise20Sum() {
        due("sum without an index", new ShapeMinima().sum(), 0);
        due("sum", withItems(3, ITEMS).sum(), 128);
        int[] most = new int[48];
        java.util.Arrays.fill(most, MAX);
        due("sum of 48 of the largest", withItems(1, most).sum(), 1176L * MAX);
        java.util.Arrays.fill(most, MIN);
        due("sum of 48 of the smallest", withItems(5, most).sum(), 1176L * MIN);
    }

    private static void promise21Parent() {
        due("parent without an index", new ShapeMinima().parent(0), STATE);
        ShapeMinima x = withItems(3, ITEMS);
        int[] got = new int[11];
        for (int i = 0; i < 11; i++) {
            got[i] = x.parent(i);
        }
        eachItem("parent", got, 1, 5, 3, 1, 3, NONE, 5, 8, 6, 10, 8);
        found("parent(11)", x, 0, x.parent(11), BEYOND);
        found("parent(-1)", x, 1, x.parent(-1), BEYOND);
        due("of two like edges the later is the parent", withItems(3, 1, 2, 1, 0).parent(1), 2);
        due("an edge at the first place", withItems(3, 1, 2, 0).parent(1), 0);
    }

    private static void promise22Depth() {
        due("depth without an index", new ShapeMinima().depth(0), STATE);
        ShapeMinima x = withItems(3, ITEMS);
        int[] got = new int[11];
        for (int i = 0; i < 11; i++) {
            got[i] = x.depth(i);
        }
        eachItem("depth", got, 2, 1, 3, 2, 3, 0, 1, 3, 2, 4, 3);
        found("depth(11)", x, 0, x.depth(11), BEYOND);
        found("depth(-1)", x, 1, x.depth(-1), BEYOND);
        due("the last of 48 like ones", withItems(6, new int[48]).depth(47), 47);
    }

    private static void promise23Size() {
        due("size without an index", new ShapeMinima().size(0), STATE);
        ShapeMinima x = withItems(3, ITEMS);
        int[] got = new int[11];
        for (int i = 0; i < 11; i++) {
            got[i] = x.size(i);
        }
        eachItem("size", got, 1, 5, 1, 3, 1, 11, 5, 1, 4, 1, 2);
        found("size(11)", x, 0, x.size(11), BEYOND);
        found("size(-1)", x, 1, x.size(-1), BEYOND);
    }

    private static void promise24Above() {
        due("above without an index", new ShapeMinima().above(0, 0), STATE);
        ShapeMinima x = withItems(3, ITEMS);
        eachItem("above 9 by", new int[] {x.above(9, 0), x.above(9, 1), x.above(9, 2), x.above(9, 3),
            x.above(9, 4), x.above(9, 5), x.above(9, MAX)}, 9, 10, 8, 6, 5, NONE, NONE);
        due("above(5, 1)", x.above(5, 1), NONE);
        found("above(5, -1)", x, 0, x.above(5, -1), BEYOND);
        found("above(5, MIN)", x, 1, x.above(5, MIN), BEYOND);
        found("above(11, 0)", x, 2, x.above(11, 0), BEYOND);
        found("above(-1, 0)", x, 3, x.above(-1, 0), BEYOND);
        ShapeMinima line = withItems(6, new int[48]);
        due("above(47, 47)", line.above(47, 47), 0);
        due("above(47, 48)", line.above(47, 48), NONE);
    }

    private static void promise25Alike() {
        due("alike without an index", new ShapeMinima().alike(0, 0, 0), STATE);
        ShapeMinima x = withItems(3, ITEMS);
        due("alike(0, 5, 3)", x.alike(0, 5, 3), 0);
        due("alike(0, 7, 4)", x.alike(0, 7, 4), 1);
        due("alike(7, 0, 4), j below i", x.alike(7, 0, 4), 1);
        due("alike(2, 2, 0)", x.alike(2, 2, 0), 1);
        due("alike(0, 4, 1)", x.alike(0, 4, 1), 1);
        due("alike(11, 0, 0), none from the end on", x.alike(11, 0, 0), 1);
        found("alike(8, 0, 4)", x, 0, x.alike(8, 0, 4), BEYOND);
        found("alike(0, 8, 4)", x, 1, x.alike(0, 8, 4), BEYOND);
        found("alike(0, 0, -1)", x, 2, x.alike(0, 0, -1), BEYOND);
        found("alike(-1, 0, 1)", x, 3, x.alike(-1, 0, 1), BEYOND);
        found("alike(0, -1, 1)", x, 4, x.alike(0, -1, 1), BEYOND);
        found("alike(12, 0, 0)", x, 5, x.alike(12, 0, 0), BEYOND);
        found("alike(1, 1, MAX)", x, 6, x.alike(1, 1, MAX), BEYOND);
        found("alike(MAX, 0, MAX)", x, 7, x.alike(MAX, 0, MAX), BEYOND);
        longOnesUnlikeAtTheStart();
        due("what lies ahead of them does not matter", withItems(3, 1, 5, 0).alike(1, 2, 1), 1);
        due("nor what lies ahead of more", withItems(3, 1, 5, 6, 0, 2, 3).alike(1, 4, 2), 1);
    }

    /** 24 items each whose shapes are the same but for the first digits. */
    private static void longOnesUnlikeAtTheStart() {
        int[] items = new int[48];
        for (int k = 0; k < 24; k++) {
            items[k] = k == 0 ? 90 : 100 - k;
            items[24 + k] = 100 - k;
        }
        ShapeMinima x = withItems(6, items);
        due("unlike at the start", x.alike(0, 24, 24), 0);
        x.put(0, 100);
        due("alike then", x.alike(0, 24, 24), 1);
        due("all of them", x.alike(0, 0, 48), 1);
    }

    private static void promise26Tree() {
        ShapeMinima x = withRow(2, PARENTS);
        due("tree(2)", x.tree(2), 10);
        due("count(9)", x.count(9), 10);
        x.lay(2, 9, 2);
        due("as the row was", x.up(9, 2), 1);
        due("tree(4)", x.tree(4), BAD);
        due("tree(-1)", x.tree(-1), BAD);
        found("tree(1)", x, 0, x.tree(1), NOTHING);
        x.row(1, 0);
        found("tree of none", x, 0, x.tree(1), SIZE);
        x.row(1, 25);
        found("tree of 25", x, 1, x.tree(1), SIZE);
        unlike(x);
        due("refused, as before", x.up(9, 2), 1);
        due("refused, as many as before", x.count(9), 10);
        layAll(x, 1, -1);
        due("a root alone", x.tree(1), 1);
        int[] line = new int[24];
        for (int k = 0; k < 24; k++) {
            line[k] = k == 23 ? -1 : k + 1;
        }
        layAll(x, 1, line);
        due("a line of 24", x.tree(1), 24);
        due("its lowest one's depth", x.node(0, 0), 23);
        due("its lowest one is met first", x.node(0, 2), 23);
        due("its lowest one's size", x.node(0, 1), 1);
        layAll(x, 1, -1, 0, 0, 1);
        due("a smaller one over a larger one", x.tree(1), 4);
        due("the root is the first", x.node(0, 2), 0);
        due("all are below it", x.node(0, 1), 4);
        due("its last son", x.node(2, 2), 5);
    }

    private static void unlike(ShapeMinima x) {
        int[][] none = {{0}, {1}, {-2}, {MIN}, {MAX}, {-1, -1}, {-1, 2}, {-1, -2}, {-1, 1}, {1, 0},
            {-1, 2, 1}, {0, -1}, {-1, 0, 4, 2, 3}, {1, 2, 0}};
        for (int k = 0; k < none.length; k++) {
            layAll(x, 3, none[k]);
            found("no tree, number " + k, x, k, x.tree(3), UNLIKE);
        }
    }

    private static void promise27Meet() {
        due("meet without a tree", new ShapeMinima().meet(0, 0), STATE);
        ShapeMinima x = withTree(PARENTS);
        int[][] rows = {{1, 2, 0}, {2, 1, 0}, {1, 6, 3}, {7, 8, 5}, {9, 2, 0}, {4, 7, 4}, {7, 4, 4}, {3, 3, 3}, {3, 9, 3}, {6, 8, 4}};
        for (int[] row : rows) {
            due("meet(" + row[0] + ", " + row[1] + ")", x.meet(row[0], row[1]), row[2]);
        }
        found("meet(0, 10)", x, 0, x.meet(0, 10), BEYOND);
        found("meet(10, 0)", x, 1, x.meet(10, 0), BEYOND);
        found("meet(-1, 0)", x, 2, x.meet(-1, 0), BEYOND);
        found("meet(0, MIN)", x, 3, x.meet(0, MIN), BEYOND);
    }

    private static void promise28Apart() {
        due("apart without a tree", new ShapeMinima().apart(0, 0), STATE);
        ShapeMinima x = withTree(PARENTS);
        int[][] rows = {{9, 7, 6}, {7, 9, 6}, {6, 5, 2}, {0, 0, 0}, {9, 1, 1}, {3, 8, 3}};
        for (int[] row : rows) {
            due("apart(" + row[0] + ", " + row[1] + ")", x.apart(row[0], row[1]), row[2]);
        }
        found("apart(0, 10)", x, 0, x.apart(0, 10), BEYOND);
        found("apart(-1, 0)", x, 1, x.apart(-1, 0), BEYOND);
    }

    private static void promise29Up() {
        due("up without a tree", new ShapeMinima().up(0, 0), STATE);
        ShapeMinima x = withTree(PARENTS);
        eachItem("up of 9 to", new int[] {x.up(9, 0), x.up(9, 1), x.up(9, 2), x.up(9, 3), x.up(9, 4), x.up(9, MAX)},
            3, 0, 1, 9, NONE, NONE);
        due("up(3, 0)", x.up(3, 0), 3);
        due("up(3, 1)", x.up(3, 1), NONE);
        found("up(9, -1)", x, 0, x.up(9, -1), BEYOND);
        found("up(9, MIN)", x, 1, x.up(9, MIN), BEYOND);
        found("up(10, 0)", x, 2, x.up(10, 0), BEYOND);
        found("up(-1, 0)", x, 3, x.up(-1, 0), BEYOND);
    }

    private static void promise30Node() {
        ShapeMinima x = new ShapeMinima();
        due("node without a tree", x.node(0, 0), STATE);
        due("node(0, 3) without a tree", x.node(0, 3), STATE);
        x = withTree(PARENTS);
        int[][] want = {{1, 2, 2, 0, 1, 2, 2, 3, 3, 3}, {4, 2, 1, 10, 5, 3, 1, 1, 1, 1}, {1, 2, 6, 0, 9, 10, 16, 11, 13, 3}};
        for (int what = 0; what < 3; what++) {
            for (int u = 0; u < 10; u++) {
                due("node(" + u + ", " + what + ")", x.node(u, what), want[what][u]);
            }
        }
        due("node(10, 3)", x.node(10, 3), BAD);
        due("node(0, -1)", x.node(0, -1), BAD);
        found("node(10, 0)", x, 0, x.node(10, 0), BEYOND);
        found("node(-1, 2)", x, 1, x.node(-1, 2), BEYOND);
        ShapeMinima star = withTree(3, 3, 3, -1, 3);
        due("sons come by numbers", star.node(4, 2), 7);
    }

    private static void promise31Asked() {
        ShapeMinima x = withItems(3, ITEMS);
        layAll(x, 2, PARENTS);
        x.tree(2);
        x.item(4);
        due("asked()", x.asked(), 9);
        due("asked() twice", x.asked(), 9);
        x.left(3);
        x.owns(3);
        x.sum();
        x.parent(3);
        x.entry(x.shape(0), 0, 2);
        x.copy(0, 0, 0, 1, 3);
        x.meet(0, 1);
        x.keep(0);
        due("asked() behind calls that tell none", x.asked(), 9);
        x.put(4, 70);
        x.item(0);
        x.undo();
        due("undo() tells none", x.asked(), 5);
        x.on(0);
        x.build(0, 2);
        x.row(1, 3);
        x.tear(1);
        due("asked() behind those, too", x.asked(), 5);
    }

    private static void promise32Count() {
        ShapeMinima x = withItems(3, ITEMS);
        counts("3 wide", x, 11, 3, 4, 4, 3, 4, 180, 0, 1, 0);
        x.put(5, 9);
        counts("put", x, 11, 3, 4, 4, 3, 5, 180, 1, 1, 0);
        x.put(8, 9);
        counts("put again", x, 11, 3, 4, 3, 3, 5, 153, 2, 1, 0);
        layAll(x, 2, PARENTS);
        x.tree(2);
        counts("a tree", x, 11, 3, 4, 3, 3, 5, 153, 2, 2, 10);
        x.row(1, 48);
        x.build(1, 1);
        counts("48 blocks", x, 48, 1, 48, 1, 6, 1, 1485, 0, 3, 10);
        x.build(1, 2);
        counts("24 blocks", x, 48, 2, 24, 1, 5, 1, 672, 0, 3, 10);
        ShapeMinima one = withItems(6, 4);
        counts("1 block", one, 1, 6, 1, 1, 1, 1, 126, 0, 1, 0);
        due("count(10)", x.count(10), BAD);
        due("count(-1)", x.count(-1), BAD);
        due("count(MAX)", x.count(MAX), BAD);
    }

    private static void promise33Finding() {
        ShapeMinima x = withItems(3, ITEMS);
        x.item(99);
        due("finding() BEYOND", x.finding(), BEYOND);
        x.tear(3);
        due("finding() NOTHING", x.finding(), NOTHING);
        x.row(3, -1);
        due("finding() SIZE", x.finding(), SIZE);
        x.tree(0);
        due("finding() UNLIKE", x.finding(), UNLIKE);
        x.row(9, 9);
        x.undo();
        x.item(0);
        x.findings(7);
        due("finding() stays", x.finding(), UNLIKE);
    }

    private static void promise34Findings() {
        ShapeMinima x = withItems(3, ITEMS);
        for (int k = 0; k < 3; k++) {
            x.item(99);
        }
        x.tear(3);
        x.row(9, 9);
        x.undo();
        eachItem("findings of one less", new int[] {x.findings(1), x.findings(2), x.findings(3), x.findings(4)}, 1, 3, 0, 0);
        due("findings(0)", x.findings(0), BAD);
        due("findings(5)", x.findings(5), BAD);
        due("findings(MIN)", x.findings(MIN), BAD);
        due("finding() as before", x.finding(), NOTHING);
    }

    private static void promise35Digest() {
        ShapeMinima x = new ShapeMinima();
        due("digest() of a new object", x.digest(), fold(0, 0, 0, 0, 0, 0, 0, 0, 0, 0, -1, -1, -1, -1));
        layAll(x, 1, 7, -3, 9);
        x.row(2, 0);
        x.build(1, 2);
        due("digest()", x.digest(), fold(3, 2, 2, 2, 2, 2, 50, 0, 2, 0, 7, -3, 9, 13, 3, -1, 3, 7, -3, 9, 0, -1));
        x.put(0, MIN);
        layAll(x, 3, -1);
        x.tree(3);
        due("digest() later", x.digest(), fold(3, 2, 2, 2, 2, 3, 50, 1, 3, 1, MIN, -3, 9, 7, 3, -1, 3, 7, -3, 9, 0, 1, -1));
        long before = x.digest();
        x.item(77);
        x.count(77);
        x.asked();
        due("digest() of what is told stays", x.digest(), before);
    }
}
