import java.util.function.ToLongFunction;

/** The boundary cases of what is told: promises 31 to 35. */
public final class ToldBoundaryTest extends Cases {
    private ToldBoundaryTest() {
    }

    public static void main(String[] args) {
        askedBefore();
        askedOfEach();
        askedOfRefused();
        askedOfOthers();
        countsWithoutAnIndex();
        countsOfTheRestWithoutAnIndex();
        countsAtTheEdges();
        countOfLikeBlocks();
        countRefused();
        findingBefore();
        findingLatest();
        findingOfOtherRefusals();
        findingOfWhatIsNotRefused();
        findingsOfEach();
        findingsRefused();
        digestOfANewObject();
        digestOfRows();
        digestOfTheIndex();
        digestWrapsAround();
        digestOfWhatIsNotInIt();
        EXPECT.end();
    }

    // ---- asked()

    private static void askedBefore() {
        sentence("What the latest .. told; 0 before");
        ShapeMinima x = new ShapeMinima();
        due("asked() of a new object", x.asked(), 0);
        x.row(0, 2);
        x.at(1, 0);
        x.item(0);
        x.build(0, 1);
        x.count(0);
        due("asked() before any that tells", x.asked(), 0);
    }

    private static void askedOfEach() {
        sentence("What the latest lay(), at(), put(), item(), least(), kth() that was not refused told");
        ShapeMinima x = withItems(3, 15, 13, 18);
        x.lay(0, 0, 25);
        due("lay()", x.asked(), 15);
        x.at(0, 0);
        due("at()", x.asked(), 25);
        x.item(0);
        due("item()", x.asked(), 15);
        x.least(0, 2);
        due("least()", x.asked(), 13);
        x.kth(0, 2, 2);
        due("kth()", x.asked(), 18);
        x.put(1, 30);
        due("put()", x.asked(), 13);
        due("asked() again", x.asked(), 13);
    }

    private static void askedOfRefused() {
        sentence("that was not refused told");
        ShapeMinima x = ready();
        x.lay(0, 11, 1);
        x.lay(1, 0, 1);
        x.lay(4, 0, 1);
        x.at(0, -1);
        x.at(1, 0);
        x.put(11, 1);
        x.item(11);
        x.least(1, 0);
        x.kth(0, 1, 2);
        due("asked() behind those", x.asked(), 9);
    }

    private static void askedOfOthers() {
        sentence("What the latest lay(), at(), put(), item(), least(), kth() .. told (no others)");
        ShapeMinima x = ready();
        x.row(1, 3);
        x.copy(0, 0, 1, 0, 3);
        x.tear(1);
        x.keep(1);
        x.undo();
        x.shape(0);
        x.entry(27, 0, 0);
        x.left(3);
        x.right(3);
        x.owns(3);
        x.sum();
        x.parent(3);
        x.depth(3);
        x.size(3);
        x.above(3, 1);
        x.alike(0, 1, 2);
        due("asked() behind those of the INDEX", x.asked(), 9);
        x.tree(2);
        x.meet(0, 1);
        x.apart(0, 1);
        x.up(0, 0);
        x.node(0, 1);
        x.count(6);
        x.finding();
        x.findings(1);
        x.digest();
        x.on(1);
        x.build(0, 6);
        due("asked() behind all the others", x.asked(), 9);
    }

    // ---- count()

    private static void countsWithoutAnIndex() {
        sentence("(0 to 6: 0 without an INDEX)");
        ShapeMinima x = new ShapeMinima();
        ShapeMinima rows = withRows();
        rows.tree(2);
        rows.build(3, 6);
        for (int what = 0; what <= 6; what++) {
            due("count(" + what + ") of a new object", x.count(what), 0);
            due("count(" + what + ") with ROWS, a TREE", rows.count(what), 0);
        }
    }

    private static void countsOfTheRestWithoutAnIndex() {
        sentence("7 how many may be UNDONE, 8 ROWS that are there, 9 nodes of the TREE");
        ShapeMinima x = new ShapeMinima();
        for (int what = 7; what <= 9; what++) {
            due("count(" + what + ") of a new object", x.count(what), 0);
        }
        ShapeMinima rows = withRows();
        rows.tree(2);
        due("UNDONE", rows.count(7), 0);
        due("ROWS, an empty one among them", rows.count(8), 3);
        due("nodes", rows.count(9), 10);
        rows.row(1, 48);
        due("all four ROWS", rows.count(8), 4);
        rows.row(1, 0);
        due("still all four ROWS", rows.count(8), 4);
    }

    private static void countsAtTheEdges() {
        sentence("0 items, 1 B, 2 BLOCKS, 3 unlike SHAPES that BLOCKS have, 4 LEVELS, 5 TABLES MADE, 6 BITS");
        counts("one item by 1", withItems(1, 5), 1, 1, 1, 1, 1, 1, 2 + 6 + 3);
        counts("one item by 6", withItems(6, 5), 1, 6, 1, 1, 1, 1, 12 + 6 + 108);
        counts("48 items by 1", withItems(1, new int[48]), 48, 1, 48, 1, 6, 1, 1485);
        counts("48 items by 6", withItems(6, new int[48]), 48, 6, 8, 1, 4, 1, 330);
        counts("43 items by 6", withItems(6, new int[43]), 43, 6, 8, 2, 4, 2, 438);
        counts("ready()", ready(), 11, 3, 4, 4, 3, 5, 180, 2, 3, 10);
    }

    private static void countOfLikeBlocks() {
        sentence("3 unlike SHAPES that BLOCKS have");
        due("all like", withItems(2, 1, 2, 3, 4).count(3), 1);
        due("all unlike", withItems(2, 1, 2, 4, 3, 5).count(3), 3);
        due("like ones apart", withItems(2, 1, 2, 4, 3, 5, 6, 8, 7).count(3), 2);
        ShapeMinima x = withItems(3, 1, 2, 3, 1, 2, 3, 1, 2, 3);
        x.put(8, 0);
        due("one more", x.count(3), 2);
        x.put(5, 0);
        x.put(2, 0);
        due("all like again", x.count(3), 1);
        due("TABLES MADE", x.count(5), 2);
    }

    private static void countRefused() {
        sentence("9 nodes of the TREE. BAD.");
        for (int what : new int[] {MIN, -10, -1, 10, 11, MAX}) {
            isBad("count(" + what + ")", READY, x -> x.count(what));
            isBad("count(" + what + ") of a new object", NEW, x -> x.count(what));
        }
    }

    // ---- finding(), findings()

    private static void findingBefore() {
        sentence("The latest FINDING (0 before any)");
        ShapeMinima x = new ShapeMinima();
        due("finding() of a new object", x.finding(), 0);
        x.row(4, 0);
        x.item(0);
        x.undo();
        due("finding() behind BAD, STATE alone", x.finding(), 0);
        for (int f = 1; f <= 4; f++) {
            due("findings(" + f + ")", x.findings(f), 0);
        }
    }

    private static void findingLatest() {
        sentence("The latest FINDING");
        ShapeMinima x = ready();
        due("finding()", x.finding(), UNLIKE);
        x.row(0, -1);
        due("SIZE", x.finding(), SIZE);
        x.item(11);
        due("BEYOND", x.finding(), BEYOND);
        x.tear(1);
        due("NOTHING", x.finding(), NOTHING);
        x.item(0);
        x.sum();
        due("NOTHING still, behind what is not refused", x.finding(), NOTHING);
        x.tree(0);
        due("UNLIKE", x.finding(), UNLIKE);
    }

    private static void findingOfOtherRefusals() {
        sentence("The latest FINDING (BAD, STATE are none)");
        ShapeMinima x = ready();
        x.item(11);
        x.row(4, -1);
        x.keep(2);
        x.on(1);
        x.count(10);
        x.findings(5);
        x.node(0, 3);
        due("finding()", x.finding(), BEYOND);
        due("findings(2)", x.findings(BEYOND), 2);
    }

    private static void findingStays(String call, ToLongFunction<ShapeMinima> taken) {
        ShapeMinima x = ready();
        // IMAGE 1 for on(1); SIZE, so that the latest one is neither the first nor the last of them.
        x.keep(1);
        x.row(0, -1);
        due(call + " is not refused", taken.applyAsLong(x) == FINDING ? 1 : 0, 0);
        due(call + ", finding()", x.finding(), SIZE);
        for (int f = 1; f <= 4; f++) {
            due(call + ", findings(" + f + ")", x.findings(f), f == SIZE ? 2 : 1);
        }
    }

    private static void findingOfWhatIsNotRefused() {
        sentence("The latest FINDING (what is not refused leaves it)");
        findingStays("row", x -> x.row(1, 4));
        findingStays("lay", x -> x.lay(0, 10, 4));
        findingStays("at", x -> x.at(0, 10));
        findingStays("tear", x -> x.tear(3));
        findingStays("copy", x -> x.copy(0, 0, 2, 0, 10));
        findingStays("build", x -> x.build(2, 4));
        findingStays("put", x -> x.put(10, 4));
        findingStays("undo", x -> x.undo());
        findingStays("keep", x -> x.keep(0));
        findingStays("on", x -> x.on(1));
        findingStays("item", x -> x.item(10));
        findingStays("shape", x -> x.shape(3));
        findingStays("entry", x -> x.entry(27, 0, 2));
        findingStays("least", x -> x.least(0, 10));
        findingStays("kth", x -> x.kth(0, 10, 10));
        findingStays("left, NONE", x -> x.left(0));
        findingStays("right, NONE", x -> x.right(10));
        findingStays("owns", x -> x.owns(10));
        findingStays("sum", x -> x.sum());
        findingStays("parent, NONE", x -> x.parent(6));
        findingStays("depth", x -> x.depth(10));
        findingStays("size", x -> x.size(10));
        findingStays("above, NONE", x -> x.above(10, 9));
        findingStays("alike", x -> x.alike(0, 9, 2));
        findingStays("tree", x -> x.tree(2));
        findingStays("meet", x -> x.meet(0, 9));
        findingStays("apart", x -> x.apart(0, 9));
        findingStays("up, NONE", x -> x.up(0, 9));
        findingStays("node", x -> x.node(9, 2));
        findingStays("asked", x -> x.asked());
        findingStays("count", x -> x.count(9));
        findingStays("findings", x -> x.findings(4));
        findingStays("digest", x -> x.digest());
    }

    private static void findingsOfEach() {
        sentence("How often a FINDING (1 .. 4) was answered");
        ShapeMinima x = new ShapeMinima();
        x.row(0, 1);
        int[] times = {0, 3, 2, 4, 1};
        for (int k = 0; k < times[NOTHING]; k++) {
            x.tear(1);
        }
        for (int k = 0; k < times[BEYOND]; k++) {
            x.at(0, 1);
        }
        for (int k = 0; k < times[SIZE]; k++) {
            x.row(0, -1);
        }
        x.tree(0);
        for (int f = 1; f <= 4; f++) {
            due("findings(" + f + ")", x.findings(f), times[f]);
        }
    }

    private static void findingsRefused() {
        sentence("How often a FINDING (1 .. 4) was answered. BAD.");
        for (int f : new int[] {MIN, -1, 0, 5, 6, MAX}) {
            isBad("findings(" + f + ")", READY, x -> x.findings(f));
            isBad("findings(" + f + ") of a new object", NEW, x -> x.findings(f));
        }
    }

    // ---- digest()

    private static void digestOfANewObject() {
        sentence("h = 17; then h = 31 h + v for each v");
        due("digest()", new ShapeMinima().digest(), fold(0, 0, 0, 0, 0, 0, 0, 0, 0, 0, -1, -1, -1, -1));
    }

    private static void digestOfRows() {
        sentence("each ROW's size (-1: missing) and ints");
        ShapeMinima x = new ShapeMinima();
        x.row(0, 0);
        due("an empty ROW", x.digest(), fold(0, 0, 0, 0, 0, 0, 0, 0, 1, 0, 0, -1, -1, -1));
        layAll(x, 3, -1);
        due("a ROW of -1", x.digest(), fold(0, 0, 0, 0, 0, 0, 0, 0, 2, 0, 0, -1, -1, 1, -1));
        x.tear(0);
        due("a ROW torn", x.digest(), fold(0, 0, 0, 0, 0, 0, 0, 0, 1, 0, -1, -1, -1, 1, -1));
        x.row(3, 2);
        due("a ROW anew", x.digest(), fold(0, 0, 0, 0, 0, 0, 0, 0, 1, 0, -1, -1, -1, 2, 0, 0));
    }

    private static void digestOfTheIndex() {
        sentence("count() 0 to 9; items; SHAPES of BLOCKS");
        ShapeMinima x = withItems(2, 7, -3, 9);
        x.tear(0);
        due("three items by 2", x.digest(), fold(3, 2, 2, 2, 2, 2, 50, 0, 0, 0, 7, -3, 9, 13, 3, -1, -1, -1, -1));
        x.put(2, MIN);
        due("behind put()", x.digest(), fold(3, 2, 2, 2, 2, 2, 50, 1, 0, 0, 7, -3, MIN, 13, 3, -1, -1, -1, -1));
    }

    private static void digestWrapsAround() {
        sentence("h = 31 h + v (a wrap-around)");
        int[] ints = steps(48, MAX, 0);
        ShapeMinima x = withRow(0, ints);
        layAll(x, 1, steps(48, MIN, 0));
        int[] all = new int[10 + 2 + 96 + 2];
        all[8] = 2;
        all[10] = 48;
        System.arraycopy(ints, 0, all, 11, 48);
        all[59] = 48;
        System.arraycopy(steps(48, MIN, 0), 0, all, 60, 48);
        all[108] = -1;
        all[109] = -1;
        due("96 of the farthest ints", x.digest(), fold(all));
    }

    private static void digestOfWhatIsNotInIt() {
        sentence("for each v: count() 0 to 9; items; SHAPES of BLOCKS; each ROW's size (-1: missing) and ints (no others)");
        ShapeMinima x = ready();
        long before = x.digest();
        x.keep(1);
        x.item(99);
        x.item(1);
        x.least(0, 5);
        x.count(10);
        due("IMAGES, asked(), findings() are not in it", x.digest(), before);
        layAll(x, 1, steps(10, -1, 1));
        x.tree(1);
        x.tear(1);
        due("how a TREE of as many nodes goes is not in it", x.digest(), before);
    }
}
