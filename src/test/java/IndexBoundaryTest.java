import java.util.ArrayList;
import java.util.List;

/** The boundary cases of part 2, the index: promises 7 to 14. */
public final class IndexBoundaryTest extends Cases {
    private IndexBoundaryTest() {
    }

    public static void main(String[] args) {
        howManyItems();
        widthsOfBlocks();
        noSuchWidths();
        lastBlocks();
        blocksAreApart();
        shapeOfOne();
        shapeOfLikeOnes();
        shapeOfTheFarthestInts();
        shapeFromTheTopOn();
        shapesOfAllShortItems();
        tablesOfAllShapes();
        oneTableForLikeShapes();
        tablesAreKept();
        tablesOfAnIndexBuiltAnew();
        tablesAreTheIndexAlone();
        levelsAtTheirEdges();
        entriesInBits();
        bitsOfShapesNow();
        tenAreKnown();
        olderOnesAreLost();
        undoneInTheirOrder();
        refusedPutsAreNotKnown();
        noneBehindBuild();
        noneBehindOn();
        stillKnown();
        buildRefused();
        buildAsTheyAre();
        putRefused();
        putAtTheEnds();
        putAnotherShape();
        undoRefused();
        undoBringsShapesBack();
        keepRefused();
        keepAndTheImages();
        onRefused();
        onBringsWidth();
        itemRefused();
        shapeRefused();
        entryRefusedForShapes();
        entryRefusedForPlaces();
        EXPECT.end();
    }

    // ---- THE INDEX and its BLOCKS

    private static void howManyItems() {
        sentence("THE INDEX (none at first) has items 0 .. (1 to 48)");
        isState("item(0) at first", NEW, x -> x.item(0));
        for (int n = 1; n <= 48; n++) {
            ShapeMinima x = withItems(4, steps(n, 100, 3));
            due("items of " + n, x.count(0), n);
            due("the last of " + n, x.item(n - 1), 1);
            due("the last of " + n + " is told", x.asked(), 100 + 3 * (n - 1));
            found("one behind the last of " + n, x, 0, x.item(n), BEYOND);
        }
    }

    private static void widthsOfBlocks() {
        sentence("in BLOCKS of B (1 to 6)");
        int[] blocks = {48, 24, 16, 12, 10, 8};
        for (int b = 1; b <= 6; b++) {
            ShapeMinima x = withRow(0, new int[48]);
            due("build(0, " + b + ")", x.build(0, b), blocks[b - 1]);
            due("B", x.count(1), b);
            due("BLOCKS", x.count(2), blocks[b - 1]);
        }
    }

    private static void noSuchWidths() {
        sentence("BAD -1 (a number that is none: B below 1, above 6)");
        for (int b : new int[] {MIN, -6, -1, 0, 7, 8, 48, MAX}) {
            isBad("build(0, " + b + ")", READY, x -> x.build(0, b));
            isBad("build(2, " + b + "), no INDEX", ROWS, x -> x.build(2, b));
        }
    }

    private static void lastBlocks() {
        sentence("BLOCK k has items k times B .., B of them, the last one what is left");
        for (int b = 1; b <= 6; b++) {
            for (int n = 1; n <= 48; n++) {
                ShapeMinima x = withRow(0, steps(n, 0, 1));
                int whole = n / b;
                int left = n % b;
                int blocks = left == 0 ? whole : whole + 1;
                String what = n + " items by " + b + ": ";
                due(what + "build()", x.build(0, b), blocks);
                due(what + "BLOCKS", x.count(2), blocks);
                for (int k = 0; k < whole; k++) {
                    due(what + "shape(" + k + ")", x.shape(k), (2 << b) - 1);
                }
                if (left > 0) {
                    due(what + "shape of what is left", x.shape(whole), (2 << left) - 1);
                }
                due(what + "shape(" + blocks + ")", x.shape(blocks), FINDING);
            }
        }
    }

    /** Items that fall from BLOCK to BLOCK and rise inside: nothing is carried over. */
    private static void blocksAreApart() {
        sentence("SHAPE of some items, one behind the other: .. a pile is empty at first");
        ShapeMinima x = withItems(3, 7, 8, 9, 4, 5, 6, 1, 2);
        due("shape(0)", x.shape(0), 15);
        due("shape(1)", x.shape(1), 15);
        due("shape(2)", x.shape(2), 7);
        due("put(3, 0)", x.put(3, 0), 0);
        due("put(2, 8): like the one ahead of it", x.put(2, 8), 0);
        due("put(2, 7): less than the one ahead of it", x.put(2, 7), 1);
        due("shape(0) then", x.shape(0), 29);
        due("shape(1) still", x.shape(1), 15);
    }

    // ---- SHAPES

    private static void shapeOfOne() {
        sentence("a number that is 1 at first; .. then it is put on: the number is doubled and 1 more");
        for (int v : new int[] {MIN, -1, 0, 1, MAX}) {
            for (int b = 1; b <= 6; b++) {
                due("one item, " + v + ", by " + b, withItems(b, v).shape(0), 3);
            }
        }
    }

    private static void shapeOfLikeOnes() {
        sentence("each one on the pile that is more than it is taken off");
        due("4 4", withItems(2, 4, 4).shape(0), 7);
        due("4 5", withItems(2, 4, 5).shape(0), 7);
        due("4 3", withItems(2, 4, 3).shape(0), 13);
        due("0 0 0 0 0 0", withItems(6, new int[6]).shape(0), 127);
        due("2 2 1 1 0 0", withItems(6, 2, 2, 1, 1, 0, 0).shape(0), 1843);
        due("1 2 1", withItems(3, 1, 2, 1).shape(0), 29);
    }

    /** Their difference wraps around. */
    private static void shapeOfTheFarthestInts() {
        sentence("more than it (a wrap-around)");
        due("MAX MIN", withItems(2, MAX, MIN).shape(0), 13);
        due("MIN MAX", withItems(2, MIN, MAX).shape(0), 7);
        due("1 MIN", withItems(2, 1, MIN).shape(0), 13);
        due("MIN 1", withItems(2, MIN, 1).shape(0), 7);
        due("-2 MAX", withItems(2, -2, MAX).shape(0), 7);
        due("MAX -2", withItems(2, MAX, -2).shape(0), 13);
        due("MIN MIN", withItems(2, MIN, MIN).shape(0), 7);
        due("MAX MAX", withItems(2, MAX, MAX).shape(0), 7);
    }

    private static void shapeFromTheTopOn() {
        sentence("is taken off, from the top on: the number is doubled each time");
        due("1 2 3 4 5 6, the least number", withItems(6, 1, 2, 3, 4, 5, 6).shape(0), 127);
        due("1 2 3 4 5 0, the largest number", withItems(6, 1, 2, 3, 4, 5, 0).shape(0), 4033);
        due("6 5 4 3 2 1", withItems(6, 6, 5, 4, 3, 2, 1).shape(0), 3413);
        due("1 3 2: one is taken off, one stays", withItems(3, 1, 3, 2).shape(0), 29);
        due("2 3 1: both are taken off", withItems(3, 2, 3, 1).shape(0), 57);
        due("3 1 2", withItems(3, 3, 1, 2).shape(0), 27);
        due("3 2 1", withItems(3, 3, 2, 1).shape(0), 53);
    }

    private static void shapesOfAllShortItems() {
        sentence("SHAPE of some items, one behind the other");
        for (int n = 1; n <= 5; n++) {
            for (List<Integer> some : allOf(n)) {
                due("shape of " + some, withItems(n, ints(some)).shape(0), Model.shapeOf(some).intValueExact());
            }
        }
    }

    // ---- TABLES

    private static void tablesOfAllShapes() {
        sentence("at which of i .. j the least item lies, the first of several");
        int[] unlike = {0, 1, 2, 5, 14, 42, 132};
        for (int n = 1; n <= 6; n++) {
            List<Integer> seen = new ArrayList<>();
            for (List<Integer> some : allOf(n)) {
                int shape = Model.shapeOf(some).intValueExact();
                if (!seen.contains(shape)) {
                    seen.add(shape);
                    wholeTable(shape, some);
                }
            }
            due("SHAPES of " + n + " items", seen.size(), unlike[n]);
        }
    }

    private static void wholeTable(int shape, List<Integer> some) {
        ShapeMinima x = withItems(6, ints(some));
        for (int i = 0; i < some.size(); i++) {
            for (int j = i; j < some.size(); j++) {
                due("entry(" + shape + ", " + i + ", " + j + ")", x.entry(shape, i, j), Model.leastOf(some, i, j));
            }
        }
        due("entry(" + shape + ") behind the last", x.entry(shape, 0, some.size()), FINDING);
    }

    private static void oneTableForLikeShapes() {
        sentence("TABLES are MADE as SHAPES occur in BLOCKS, one for each unlike SHAPE");
        ShapeMinima x = withItems(2, 1, 2, 5, 5, 9, 8, 4);
        due("like BLOCKS have one TABLE: 1 2, 5 5; 9 8; 4", x.count(5), 3);
        isBad("no such SHAPE yet", () -> withItems(2, 1, 2), y -> y.entry(13, 0, 0));
        x.put(0, 3);
        due("another BLOCK has a SHAPE that is there", x.count(5), 3);
        x.put(0, 1);
        x.put(0, 3);
        due("a SHAPE that comes again", x.count(5), 3);
        ShapeMinima y = withItems(2, 1, 2);
        due("put(0, 3)", y.put(0, 3), 1);
        due("a SHAPE more", y.count(5), 2);
        due("its TABLE", y.entry(13, 0, 1), 1);
    }

    private static void tablesAreKept() {
        sentence("and kept till THE INDEX is built anew");
        ShapeMinima x = withItems(3, 1, 2, 3);
        x.put(0, 9);
        x.put(1, 1);
        due("TABLES of 15, 27", x.count(5), 2);
        due("SHAPES now", x.count(3), 1);
        due("the older one", x.entry(15, 0, 2), 0);
        x.undo();
        x.undo();
        due("TABLES stay behind undo()", x.count(5), 2);
        due("the one undone", x.entry(27, 0, 2), 1);
        x.keep(0);
        x.build(1, 3);
        x.build(0, 7);
        x.on(1);
        x.row(0, 3);
        x.tear(0);
        due("TABLES stay behind what builds none", x.count(5), 2);
        due("the one undone, still", x.entry(27, 0, 2), 1);
    }

    private static void tablesOfAnIndexBuiltAnew() {
        sentence("kept till THE INDEX is built anew (build(), on())");
        ShapeMinima x = withItems(3, 1, 2, 3);
        x.put(0, 9);
        due("build(0, 3), the same ROW", x.build(0, 3), 1);
        due("TABLES", x.count(5), 1);
        due("the one from ahead of build()", x.entry(27, 0, 0), BAD);
        due("the one now", x.entry(15, 0, 0), 0);
        x.put(0, 9);
        x.keep(0);
        due("on(0), the same items", x.on(0), 3);
        due("TABLES behind on()", x.count(5), 1);
        due("the one from ahead of on()", x.entry(15, 0, 0), BAD);
        due("the one of the IMAGE", x.entry(27, 0, 0), 0);
    }

    /** Neither THE TOUR's own index nor what alike() looks at makes TABLES here. */
    private static void tablesAreTheIndexAlone() {
        sentence("TABLES are MADE as SHAPES occur in BLOCKS");
        ShapeMinima x = withItems(3, 1, 2, 3, 0);
        layAll(x, 2, PARENTS);
        x.tree(2);
        due("alike(1, 1, 3)", x.alike(1, 1, 3), 1);
        x.meet(0, 9);
        due("TABLES of 15, 3", x.count(5), 2);
        due("SHAPE of 2 3 0 is none of them", x.entry(57, 0, 0), BAD);
    }

    // ---- RUNS and BITS

    private static void levelsAtTheirEdges() {
        sentence("for 1, 2, 4, .. BLOCKS (as long as there are so many)");
        int[][] levels = {{1, 1}, {2, 2}, {3, 2}, {4, 3}, {7, 3}, {8, 4}, {15, 4}, {16, 5}, {31, 5}, {32, 6}, {48, 6}};
        for (int[] row : levels) {
            due("LEVELS of " + row[0] + " BLOCKS", withItems(1, new int[row[0]]).count(4), row[1]);
        }
        due("LEVELS of 5 items by 6", withItems(6, new int[5]).count(4), 1);
        due("LEVELS of 7 items by 6", withItems(6, new int[7]).count(4), 2);
        due("LEVELS of 48 items by 6", withItems(6, new int[48]).count(4), 4);
        due("LEVELS of 24 items by 6", withItems(6, new int[24]).count(4), 3);
        due("LEVELS of 25 items by 6", withItems(6, new int[25]).count(4), 3);
    }

    private static void entriesInBits() {
        sentence("BITS: twice B for each BLOCK; 6 for each ENTRY");
        int[][] entries = {{1, 1}, {2, 3}, {3, 5}, {4, 8}, {7, 17}, {8, 21}, {15, 49}, {16, 54}, {31, 129}, {32, 135}, {48, 231}};
        for (int[] row : entries) {
            due("BITS of " + row[0] + " BLOCKS", withItems(1, new int[row[0]]).count(6), 2 * row[0] + 6 * row[1] + 3);
        }
        due("a last BLOCK of one counts like the others", withItems(6, new int[7]).count(6), 24 + 18 + 216);
        due("one item by 6", withItems(6, 0).count(6), 12 + 6 + 108);
        due("48 items by 6", withItems(6, new int[48]).count(6), 96 + 6 * 21 + 108);
    }

    private static void bitsOfShapesNow() {
        sentence("3 times B times B for each unlike SHAPE that BLOCKS have now");
        ShapeMinima x = withItems(2, 1, 2, 3, 4);
        due("one SHAPE", x.count(6), 8 + 18 + 12);
        x.put(0, 9);
        due("two SHAPES", x.count(6), 8 + 18 + 24);
        due("unlike SHAPES", x.count(3), 2);
        x.put(2, 9);
        due("one SHAPE, two TABLES", x.count(6), 8 + 18 + 12);
        due("unlike SHAPES then", x.count(3), 1);
        due("TABLES MADE", x.count(5), 2);
        x.undo();
        due("two SHAPES again", x.count(6), 8 + 18 + 24);
    }

    // ---- what may be UNDONE

    private static void tenAreKnown() {
        sentence("UNDONE: the latest put() that was not refused (10 are known");
        for (int puts = 0; puts <= 12; puts++) {
            ShapeMinima x = withItems(2, 0, 0, 0);
            for (int k = 1; k <= puts; k++) {
                x.put(1, k);
            }
            int known = Math.min(puts, 10);
            due(puts + " puts: may be UNDONE", x.count(7), known);
            for (int more = known - 1; more >= 0; more--) {
                due(puts + " puts: undo()", x.undo(), more);
                x.item(1);
                due(puts + " puts: item 1", x.asked(), puts - known + more);
            }
            due(puts + " puts: undo() once too often", x.undo(), STATE);
            due(puts + " puts: may be UNDONE then", x.count(7), 0);
        }
    }

    private static void olderOnesAreLost() {
        sentence("older ones are lost");
        ShapeMinima x = withItems(4, steps(11, 0, 1));
        for (int i = 0; i < 11; i++) {
            x.put(i, 100 + i);
        }
        for (int k = 0; k < 10; k++) {
            x.undo();
        }
        int[] due = steps(11, 0, 1);
        due[0] = 100;
        sameItems("the first put stands", x, due);
        due("undo()", x.undo(), STATE);
        x.put(0, 7);
        due("a later one may be UNDONE", x.undo(), 0);
        x.item(0);
        due("not the one that is lost", x.asked(), 100);
    }

    private static void undoneInTheirOrder() {
        sentence("UNDONE: the latest put()");
        ShapeMinima x = withItems(3, 1, 2, 3);
        x.put(0, 10);
        x.put(1, 20);
        due("undo()", x.undo(), 1);
        sameItems("the later one", x, 10, 2, 3);
        x.put(2, 30);
        due("undo()", x.undo(), 1);
        sameItems("the one put in between", x, 10, 2, 3);
        due("undo()", x.undo(), 0);
        sameItems("the first one", x, 1, 2, 3);
        x.put(1, 2);
        due("a put of what is there is one, too", x.count(7), 1);
        due("undo()", x.undo(), 0);
        x.put(1, 5);
        x.put(1, 6);
        x.undo();
        sameItems("one of two at one place", x, 1, 5, 3);
    }

    private static void refusedPutsAreNotKnown() {
        sentence("the latest put() that was not refused");
        ShapeMinima x = withItems(3, 1, 2, 3);
        x.put(1, 9);
        x.put(3, 9);
        x.put(-1, 9);
        due("may be UNDONE", x.count(7), 1);
        due("undo()", x.undo(), 0);
        sameItems("the one that was not refused", x, 1, 2, 3);
        ShapeMinima none = new ShapeMinima();
        none.put(0, 1);
        due("without an INDEX", none.undo(), STATE);
    }

    private static void noneBehindBuild() {
        sentence("none behind build()");
        ShapeMinima x = ready();
        due("ahead of it", x.count(7), 2);
        due("build(0, 3)", x.build(0, 3), 4);
        due("behind it", x.count(7), 0);
        due("undo()", x.undo(), STATE);
        sameItems("items as the ROW has them", x, ITEMS);
    }

    private static void noneBehindOn() {
        sentence("none behind .. on()");
        ShapeMinima x = ready();
        x.keep(1);
        due("on(1), as it is", x.on(1), 11);
        due("behind it", x.count(7), 0);
        due("undo()", x.undo(), STATE);
        sameItems("items as the IMAGE has them", x, 4, 3, 8, 3, 9, 9, 1, 7, 2, 6, 2);
    }

    private static void stillKnown() {
        sentence("(10 are known, older ones are lost; none behind build(), on())");
        ShapeMinima x = ready();
        x.keep(1);
        x.tree(2);
        x.row(0, 0);
        x.tear(2);
        x.build(1, 3);
        x.build(0, 3);
        x.on(2);
        due("known behind keep(), tree(), ROWS that change, what is refused", x.count(7), 2);
        due("undo()", x.undo(), 1);
        due("undo()", x.undo(), 0);
        sameItems("as they were built", x, ITEMS);
    }

    // ---- the calls

    private static void buildRefused() {
        sentence("how many BLOCKS. BAD; NOTHING; SIZE: an empty ROW.");
        isFinding(NOTHING, "build(1, 1)", READY, x -> x.build(1, 1));
        isFinding(NOTHING, "build(1, 6)", READY, x -> x.build(1, 6));
        isFinding(SIZE, "build(3, 1)", READY, x -> x.build(3, 1));
        isFinding(SIZE, "build(3, 6)", ROWS, x -> x.build(3, 6));
        due("a ROW of one", withRow(1, 5).build(1, 6), 1);
    }

    private static void buildAsTheyAre() {
        sentence("THE INDEX is built over a ROW's ints, as they are");
        ShapeMinima x = withItems(3, ITEMS);
        x.lay(0, 0, 77);
        sameItems("behind lay()", x, ITEMS);
        x.row(0, 2);
        sameItems("behind row()", x, ITEMS);
        x.tear(0);
        sameItems("behind tear()", x, ITEMS);
        ShapeMinima y = withItems(3, ITEMS);
        y.put(0, 77);
        sameRow("the ROW stays behind put()", y, 0, ITEMS);
        y.undo();
        sameRow("and behind undo()", y, 0, ITEMS);
        layAll(y, 1, 6, 5);
        due("fewer items than last time", y.build(1, 4), 1);
        sameItems("fewer items", y, 6, 5);
        found("none of the older ones", y, 0, y.item(2), BEYOND);
    }

    private static void putRefused() {
        sentence("1 its BLOCK has another SHAPE, 0 not. STATE: no INDEX; BEYOND.");
        isState("put(0, 5)", NEW, x -> x.put(0, 5));
        for (int i : NO_ITEMS) {
            isFinding(BEYOND, "put(" + i + ", -99)", READY, x -> x.put(i, -99));
        }
    }

    private static void putAtTheEnds() {
        sentence("Item i becomes v: what it was, told by asked()");
        ShapeMinima x = withItems(5, steps(48, 0, 1));
        due("put(0, MAX)", x.put(0, MAX), 1);
        due("it was 0", x.asked(), 0);
        due("put(47, MIN)", x.put(47, MIN), 1);
        due("it was 47", x.asked(), 47);
        due("least(0, 47)", x.least(0, 47), 47);
        due("put(0, 0)", x.put(0, 0), 1);
        due("it was MAX", x.asked(), MAX);
        due("put(47, 47)", x.put(47, 47), 1);
        due("it was MIN", x.asked(), MIN);
        due("least(0, 47) then", x.least(0, 47), 0);
        for (int b = 1; b <= 6; b++) {
            ShapeMinima y = withItems(b, 5, 6, 7, 8, 9, 10, 11);
            for (int i = 0; i < 7; i++) {
                y.put(i, 20 - i);
            }
            sameItems("by " + b, y, 20, 19, 18, 17, 16, 15, 14);
            y.undo();
            sameItems("by " + b + ", one undone", y, 20, 19, 18, 17, 16, 15, 11);
        }
    }

    private static void putAnotherShape() {
        sentence("1 its BLOCK has another SHAPE, 0 not");
        ShapeMinima x = withItems(2, 4, 4, 9, 9);
        due("less ahead of a like one", x.put(0, 3), 0);
        due("as it is", x.put(0, 3), 0);
        due("the other less than it", x.put(1, 2), 1);
        due("still less", x.put(1, MIN), 0);
        due("like it", x.put(1, 3), 1);
        due("another BLOCK's least has no part in it", x.put(2, MIN), 0);
        due("in a BLOCK of one", withItems(1, 5, 6).put(1, MIN), 0);
        due("in a last BLOCK of one", withItems(2, 5, 6, 7).put(2, MIN), 0);
    }

    private static void undoRefused() {
        sentence("UNDONE: how many more may be. STATE: none.");
        isState("undo(), no INDEX", NEW, x -> x.undo());
        isState("undo(), no put", () -> withItems(3, ITEMS), x -> x.undo());
        isState("undo(), all UNDONE", () -> {
            ShapeMinima x = ready();
            x.undo();
            x.undo();
            return x;
        }, x -> x.undo());
    }

    private static void undoBringsShapesBack() {
        sentence("UNDONE: how many more may be");
        ShapeMinima x = withItems(2, 1, 2, 3, 4);
        long before = x.digest();
        x.put(0, 1);
        due("a put of what is there, undone", x.undo(), 0);
        due("digest() as before", x.digest(), before);
        x.put(3, 0);
        due("shape(1)", x.shape(1), 13);
        x.undo();
        due("shape(1) as before", x.shape(1), 7);
        due("least(0, 3) as before", x.least(0, 3), 0);
    }

    private static void keepRefused() {
        sentence("Items, B are kept as an IMAGE (0, 1): how many items. BAD; STATE: no INDEX.");
        for (int k : new int[] {MIN, -1, 2, 3, MAX}) {
            isBad("keep(" + k + ")", READY, x -> x.keep(k));
        }
        isState("keep(0)", ROWS, x -> x.keep(0));
        isState("keep(1)", ROWS, x -> x.keep(1));
    }

    private static void keepAndTheImages() {
        sentence("Items, B are kept as an IMAGE (0, 1): how many items");
        ShapeMinima x = withItems(6, 8);
        due("keep(0) of one", x.keep(0), 1);
        x.row(1, 48);
        x.build(1, 5);
        due("keep(1) of 48", x.keep(1), 48);
        x.put(0, -5);
        due("on(0)", x.on(0), 1);
        sameItems("IMAGE 0", x, 8);
        x.put(0, 9);
        due("on(1)", x.on(1), 48);
        due("IMAGE 1 as it was kept", x.least(0, 47), 0);
        due("its item", x.asked(), 0);
        due("on(0) again", x.on(0), 1);
        sameItems("IMAGE 0 as it was kept", x, 8);
        x.put(0, 11);
        due("keep(0) over the older one", x.keep(0), 1);
        x.build(1, 2);
        due("an IMAGE stays behind build()", x.on(0), 1);
        sameItems("IMAGE 0 anew", x, 11);
    }

    private static void onRefused() {
        sentence("how many items. BAD; STATE: none was kept.");
        for (int k : new int[] {MIN, -1, 2, 3, MAX}) {
            isBad("on(" + k + ")", READY, x -> x.on(k));
        }
        isState("on(1), 0 was kept", READY, x -> x.on(1));
        isState("on(0), 1 was kept", () -> {
            ShapeMinima x = withItems(2, 3, 4);
            x.keep(1);
            return x;
        }, x -> x.on(0));
        isState("on(0), keep() was refused", () -> {
            ShapeMinima x = new ShapeMinima();
            x.keep(0);
            layAll(x, 0, 1, 2);
            x.build(0, 1);
            return x;
        }, x -> x.on(0));
    }

    private static void onBringsWidth() {
        sentence("THE INDEX is built anew as an IMAGE has it: how many items");
        ShapeMinima x = ready();
        due("on(0)", x.on(0), 3);
        due("B", x.count(1), 2);
        due("BLOCKS", x.count(2), 2);
        due("TABLES MADE", x.count(5), 2);
        due("shape(0)", x.shape(0), 7);
        due("shape(1), what is left", x.shape(1), 3);
        sameItems("its items", x, 9, 9, 1);
        found("none of the older ones", x, 1, x.item(3), BEYOND);
        x.on(0);
        due("twice", x.count(0), 3);
    }

    private static void itemRefused() {
        sentence("Item i, told by asked(): 1. STATE: no INDEX; BEYOND.");
        isState("item(0)", NEW, x -> x.item(0));
        for (int i : NO_ITEMS) {
            isFinding(BEYOND, "item(" + i + ")", READY, x -> x.item(i));
        }
    }

    private static void shapeRefused() {
        sentence("SHAPE of a BLOCK. STATE: no INDEX; BEYOND.");
        isState("shape(0)", NEW, x -> x.shape(0));
        due("shape(3), the last one", ready().shape(3), 13);
        for (int k : new int[] {MIN, -1, 4, 5, 10, 47, 48, MAX}) {
            isFinding(BEYOND, "shape(" + k + ")", READY, x -> x.shape(k));
        }
    }

    private static void entryRefusedForShapes() {
        sentence("STATE: no INDEX; BAD: no such SHAPE was MADE");
        isState("entry(3, 0, 0)", NEW, x -> x.entry(3, 0, 0));
        ShapeMinima x = ready();
        List<Integer> made = List.of(27, 57, 15, 29, 13);
        for (int shape : made) {
            due("entry(" + shape + ", 0, 0)", x.entry(shape, 0, 0), 0);
        }
        due("TABLES MADE", x.count(5), made.size());
        for (int shape : new int[] {MIN, -27, -1, 0, 1, 2, 3, 7, 12, 14, 16, 26, 28, 53, 56, 58, 127, 4095, 4096, 27 + 4096, MAX}) {
            isBad("entry(" + shape + ", 0, 0)", READY, y -> y.entry(shape, 0, 0));
        }
        // A shift by a SHAPE's number must not wrap around: 64 and 4096 more are no such SHAPES.
        isBad("entry(27 + 64, 0, 0)", READY, y -> y.entry(27 + 64, 0, 0));
        isBad("entry(27 - 4096, 0, 0)", READY, y -> y.entry(27 - 4096, 0, 0));
    }

    private static void entryRefusedForPlaces() {
        sentence("BEYOND: places (j below i, too)");
        due("entry(27, 2, 2)", ready().entry(27, 2, 2), 2);
        due("entry(27, 0, 2)", ready().entry(27, 0, 2), 1);
        due("entry(13, 0, 1), a last BLOCK's", ready().entry(13, 0, 1), 1);
        int[][] none = {{-1, 0}, {-1, -1}, {0, -1}, {1, 0}, {2, 1}, {2, 0}, {0, 3}, {3, 3}, {3, 2}, {0, MAX}, {MIN, 0},
            {MIN, MAX}, {MAX, MAX}, {MIN, MIN}, {MAX, MIN}};
        for (int[] row : none) {
            isFinding(BEYOND, "entry(27, " + row[0] + ", " + row[1] + ")", READY, x -> x.entry(27, row[0], row[1]));
        }
        isFinding(BEYOND, "entry(13, 0, 2), as wide as B", READY, x -> x.entry(13, 0, 2));
        isFinding(BEYOND, "entry(13, 2, 2), as wide as B", READY, x -> x.entry(13, 2, 2));
    }
}
