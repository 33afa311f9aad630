/** The boundary cases of part 4, a tree told by parents: promises 26 to 30. */
public final class TreeBoundaryTest extends Cases {
    private TreeBoundaryTest() {
    }

    public static void main(String[] args) {
        noneAtFirst();
        howManyNodes();
        tooFewTooMany();
        rowsRefused();
        noRoot();
        severalRoots();
        noSuchParents();
        circles();
        rootsAnywhere();
        sonsByNumbers();
        theTourOfAll();
        asTheRowWas();
        refusedTreesLeaveTheOlderOne();
        anIndexOfItsOwn();
        meetOfOne();
        meetOfOneAboveTheOther();
        meetInALine();
        meetRefused();
        apartOfOne();
        apartAtTheFarthest();
        apartRefused();
        upToItself();
        upNone();
        upRefused();
        nodeOfTheRoot();
        nodeOfOne();
        nodeRefusedForWhat();
        nodeRefusedForNodes();
        EXPECT.end();
    }

    /** Node k below node k - 1, the root first. */
    private static int[] line(int n) {
        return steps(n, -1, 1);
    }

    /** Node k below node k + 1, the root last. */
    private static int[] lineUp(int n) {
        int[] parents = steps(n, 1, 1);
        parents[n - 1] = -1;
        return parents;
    }

    private static int[] star(int n, int root) {
        int[] parents = steps(n, root, 0);
        parents[root] = -1;
        return parents;
    }

    private static void isUnlike(String what, int... parents) {
        isFinding(UNLIKE, "tree of " + what, () -> {
            ShapeMinima x = ready();
            layAll(x, 1, parents);
            return x;
        }, x -> x.tree(1));
    }

    // ---- how many nodes, which parents

    private static void noneAtFirst() {
        sentence("A TREE of nodes 0 .. (1 to 24; none at first)");
        due("nodes", new ShapeMinima().count(9), 0);
        isState("meet(0, 0)", NEW, x -> x.meet(0, 0));
        isState("node(0, 0)", ROWS, x -> x.node(0, 0));
    }

    private static void howManyNodes() {
        sentence("A TREE of nodes 0 .. (1 to 24)");
        for (int n = 1; n <= 24; n++) {
            ShapeMinima x = withRow(1, line(n));
            due("tree of a line of " + n, x.tree(1), n);
            due("nodes", x.count(9), n);
            due("the last node's DEPTH", x.node(n - 1, 0), n - 1);
            found("no node behind the last of " + n, x, 0, x.node(n, 0), BEYOND);
            ShapeMinima y = withRow(1, star(n, n - 1));
            due("tree of a star of " + n, y.tree(1), n);
        }
    }

    private static void tooFewTooMany() {
        sentence("SIZE: none, more than 24");
        isFinding(SIZE, "tree of none", READY, x -> x.tree(3));
        for (int n : new int[] {25, 26, 47, 48}) {
            isFinding(SIZE, "tree of a line of " + n, () -> withRow(2, line(n)), x -> x.tree(2));
        }
        due("tree of 24", withRow(2, line(24)).tree(2), 24);
    }

    private static void rowsRefused() {
        sentence("how many nodes. BAD; NOTHING; SIZE: none, more than 24; UNLIKE.");
        for (int r : NO_ROWS) {
            isBad("tree(" + r + ")", READY, x -> x.tree(r));
        }
        isFinding(NOTHING, "tree(1)", READY, x -> x.tree(1));
        isFinding(NOTHING, "tree(0) of a new object", NEW, x -> x.tree(0));
        isFinding(UNLIKE, "tree(0)", READY, x -> x.tree(0));
    }

    private static void noRoot() {
        sentence("-1 for the root (one alone): none");
        isUnlike("0", 0);
        isUnlike("1 0", 1, 0);
        isUnlike("0 0 0", 0, 0, 0);
        isUnlike("1 2 0", 1, 2, 0);
    }

    private static void severalRoots() {
        sentence("-1 for the root (one alone): several");
        isUnlike("-1 -1", -1, -1);
        isUnlike("-1 0 -1", -1, 0, -1);
        isUnlike("24 roots", steps(24, -1, 0));
    }

    private static void noSuchParents() {
        sentence("UNLIKE (parents that make no tree): no such node");
        isUnlike("1 alone", 1);
        isUnlike("-2 alone", -2);
        isUnlike("MIN alone", MIN);
        isUnlike("MAX alone", MAX);
        isUnlike("-1 2", -1, 2);
        isUnlike("-1 -2", -1, -2);
        isUnlike("-1 MIN", -1, MIN);
        isUnlike("-1 MAX", -1, MAX);
        isUnlike("-2 0, one below it", -2, 0);
        isUnlike("1 MIN, one below it", 1, MIN);
        isUnlike("-3 0 1, two below it", -3, 0, 1);
        isUnlike("-1 0 3", -1, 0, 3);
        isUnlike("3 -1 1", 3, -1, 1);
        int[] parents = line(24);
        parents[23] = 24;
        isUnlike("a line of 24, the last one's parent 24", parents);
    }

    private static void circles() {
        sentence("UNLIKE (parents that make no tree): a circle");
        isUnlike("-1 1, its own parent", -1, 1);
        isUnlike("0 -1, its own parent", 0, -1);
        isUnlike("-1 2 1", -1, 2, 1);
        isUnlike("-1 2 3 1, a circle of three", -1, 2, 3, 1);
        isUnlike("-1 0 4 2 3", -1, 0, 4, 2, 3);
        isUnlike("-1 2 1 1, one below a circle", -1, 2, 1, 1);
        int[] parents = line(24);
        parents[1] = 23;
        isUnlike("a circle of 23 beside the root", parents);
    }

    private static void rootsAnywhere() {
        sentence("int k is the parent of node k, -1 for the root (one alone)");
        for (int root = 0; root < 24; root++) {
            ShapeMinima x = withTree(star(24, root));
            due("nodes", x.count(9), 24);
            due("the root's DEPTH", x.node(root, 0), 0);
            due("the root's place", x.node(root, 2), 0);
            due("all are below the root", x.node(root, 1), 24);
            due("another one's DEPTH", x.node((root + 1) % 24, 0), 1);
        }
    }

    // ---- THE TOUR

    private static void sonsByNumbers() {
        sentence("Sons come by numbers");
        ShapeMinima x = withTree(3, 3, 3, -1, 3);
        due("son 0", x.node(0, 2), 1);
        due("son 1", x.node(1, 2), 3);
        due("son 2", x.node(2, 2), 5);
        due("son 4", x.node(4, 2), 7);
        ShapeMinima y = withTree(2, 2, -1, 1, 0);
        due("son 0 of 2", y.node(0, 2), 1);
        due("its son 4", y.node(4, 2), 2);
        due("son 1 of 2", y.node(1, 2), 5);
        due("its son 3", y.node(3, 2), 6);
    }

    private static void theTourOfAll() {
        sentence("THE TOUR goes from the root down to each son, and back to the node behind each");
        due("one node", withTree(-1).node(0, 2), 0);
        ShapeMinima down = withTree(line(24));
        ShapeMinima up = withTree(lineUp(24));
        ShapeMinima star = withTree(star(24, 0));
        for (int u = 0; u < 24; u++) {
            due("a line, node " + u, down.node(u, 2), u);
            due("a line, the root last, node " + u, up.node(u, 2), 23 - u);
            due("a star, node " + u, star.node(u, 2), u == 0 ? 0 : 2 * u - 1);
        }
    }

    private static void asTheRowWas() {
        sentence("The TREE becomes that of a ROW");
        ShapeMinima x = withTree(PARENTS);
        x.lay(2, 9, 2);
        due("behind lay()", x.meet(9, 1), 1);
        x.row(2, 3);
        due("behind row()", x.meet(9, 1), 1);
        x.tear(2);
        due("behind tear()", x.meet(9, 1), 1);
        layAll(x, 1, -1, 0, 0, 1);
        due("a smaller one", x.tree(1), 4);
        due("its nodes", x.count(9), 4);
        due("meet(3, 2)", x.meet(3, 2), 0);
        due("node(0, 1)", x.node(0, 1), 4);
        due("node(2, 2)", x.node(2, 2), 5);
        found("none of the older ones", x, 0, x.meet(0, 4), BEYOND);
        layAll(x, 1, line(24));
        due("a larger one", x.tree(1), 24);
        due("apart(0, 23)", x.apart(0, 23), 23);
    }

    private static void refusedTreesLeaveTheOlderOne() {
        sentence("What is refused changes nothing but finding(), findings() (tree())");
        ShapeMinima x = ready();
        layAll(x, 1, -1, 0, 1, 2, 2, 6, 5);
        found("a tree for most of it, then a circle", x, 1, x.tree(1), UNLIKE);
        due("nodes", x.count(9), 10);
        due("meet(7, 8)", x.meet(7, 8), 5);
        due("up(9, 1)", x.up(9, 1), 0);
        due("node(6, 2)", x.node(6, 2), 16);
    }

    private static void anIndexOfItsOwn() {
        sentence("DEPTHS of nodes met are the items of an index of its own");
        ShapeMinima x = withItems(3, ITEMS);
        x.put(0, 6);
        layAll(x, 2, PARENTS);
        x.tree(2);
        int[] due = ITEMS.clone();
        due[0] = 6;
        sameItems("THE INDEX stays behind tree()", x, due);
        due("B", x.count(1), 3);
        due("may be UNDONE", x.count(7), 1);
        x.build(2, 6);
        x.put(0, -9);
        due("the TREE stays behind build(), put()", x.meet(9, 7), 3);
        ShapeMinima y = withTree(PARENTS);
        due("a TREE is no INDEX: count(0)", y.count(0), 0);
        due("a TREE is no INDEX: least(0, 0)", y.least(0, 0), STATE);
        due("an INDEX is no TREE", withItems(3, PARENTS).meet(0, 0), STATE);
    }

    // ---- MEET, APART, UP

    private static void meetOfOne() {
        sentence("MEET of two nodes: the lowest one that is above both, or one of them (one and itself)");
        ShapeMinima x = withTree(PARENTS);
        for (int u = 0; u < 10; u++) {
            due("meet(" + u + ", " + u + ")", x.meet(u, u), u);
        }
        due("one node", withTree(-1).meet(0, 0), 0);
    }

    private static void meetOfOneAboveTheOther() {
        sentence("MEET of two nodes: the lowest one that is above both, or one of them");
        ShapeMinima x = withTree(PARENTS);
        for (int u = 0; u < 10; u++) {
            due("meet(3, " + u + ")", x.meet(3, u), 3);
            due("meet(" + u + ", 3)", x.meet(u, 3), 3);
        }
        due("meet(4, 7)", x.meet(4, 7), 4);
        due("meet(7, 4)", x.meet(7, 4), 4);
        due("sons of one", x.meet(7, 8), 5);
        due("sons of one, the other way", x.meet(8, 7), 5);
        due("of unlike DEPTHS", x.meet(8, 6), 4);
        due("meet at the root", x.meet(9, 8), 3);
    }

    private static void meetInALine() {
        sentence("(the node at which THE TOUR is least deep between their first meetings)");
        ShapeMinima down = withTree(line(24));
        ShapeMinima star = withTree(star(24, 23));
        for (int u = 0; u < 24; u++) {
            due("a line, meet(" + u + ", 23)", down.meet(u, 23), u);
            due("a line, meet(23, " + u + ")", down.meet(23, u), u);
            due("a star, meet(" + u + ", 0)", star.meet(u, 0), u == 0 ? 0 : 23);
        }
    }

    private static void meetRefused() {
        sentence("MEET. STATE: no TREE; BEYOND: a node.");
        isState("meet(0, 0)", NEW, x -> x.meet(0, 0));
        for (int u : NO_NODES) {
            isFinding(BEYOND, "meet(" + u + ", 0)", READY, x -> x.meet(u, 0));
            isFinding(BEYOND, "meet(9, " + u + ")", READY, x -> x.meet(9, u));
            isFinding(BEYOND, "meet(" + u + ", " + u + ")", READY, x -> x.meet(u, u));
        }
    }

    private static void apartOfOne() {
        sentence("APART: how many steps from one to the other");
        ShapeMinima x = withTree(PARENTS);
        for (int u = 0; u < 10; u++) {
            due("apart(" + u + ", " + u + ")", x.apart(u, u), 0);
        }
        due("one and its parent", x.apart(9, 1), 1);
        due("a parent and one", x.apart(1, 9), 1);
        due("sons of one", x.apart(7, 8), 2);
        due("apart(9, 7)", x.apart(9, 7), 6);
        due("apart(7, 9)", x.apart(7, 9), 6);
    }

    private static void apartAtTheFarthest() {
        sentence("APART: how many steps from one to the other (the farthest)");
        due("the ends of a line", withTree(line(24)).apart(0, 23), 23);
        due("the ends of a line, the root last", withTree(lineUp(24)).apart(0, 23), 23);
        int[] two = line(24);
        two[12] = 0;
        due("two lines from the root", withTree(two).apart(11, 23), 23);
        due("a star", withTree(star(24, 5)).apart(0, 23), 2);
    }

    private static void apartRefused() {
        sentence("APART. STATE: no TREE; BEYOND.");
        isState("apart(0, 0)", NEW, x -> x.apart(0, 0));
        for (int u : NO_NODES) {
            isFinding(BEYOND, "apart(" + u + ", 0)", READY, x -> x.apart(u, 0));
            isFinding(BEYOND, "apart(9, " + u + ")", READY, x -> x.apart(9, u));
            isFinding(BEYOND, "apart(" + u + ", " + u + ")", READY, x -> x.apart(u, u));
        }
    }

    private static void upToItself() {
        sentence("UP of a node to a DEPTH: the node above it, or it, that lies so deep");
        ShapeMinima x = withTree(PARENTS);
        for (int u = 0; u < 10; u++) {
            due("up(" + u + ", its own DEPTH)", x.up(u, x.node(u, 0)), u);
            due("up(" + u + ", 0)", x.up(u, 0), 3);
        }
        due("up(9, 1)", x.up(9, 1), 0);
        due("up(9, 2)", x.up(9, 2), 1);
        ShapeMinima line = withTree(line(24));
        for (int depth = 0; depth < 24; depth++) {
            due("a line, up(23, " + depth + ")", line.up(23, depth), depth);
        }
    }

    private static void upNone() {
        sentence("NONE (it lies less deep)");
        ShapeMinima x = withTree(PARENTS);
        for (int u = 0; u < 10; u++) {
            due("up(" + u + ", one deeper than it)", x.up(u, x.node(u, 0) + 1), NONE);
            due("up(" + u + ", MAX)", x.up(u, MAX), NONE);
        }
        due("a line, up(23, 24)", withTree(line(24)).up(23, 24), NONE);
        due("one node, up(0, 1)", withTree(-1).up(0, 1), NONE);
    }

    private static void upRefused() {
        sentence("UP; NONE. STATE: no TREE; BEYOND (also a DEPTH below 0).");
        isState("up(0, 0)", NEW, x -> x.up(0, 0));
        isState("up(0, 1)", ROWS, x -> x.up(0, 1));
        for (int depth : BELOW_NONE) {
            isFinding(BEYOND, "up(9, " + depth + ")", READY, x -> x.up(9, depth));
            isFinding(BEYOND, "up(3, " + depth + "), the root", READY, x -> x.up(3, depth));
        }
        for (int u : NO_NODES) {
            isFinding(BEYOND, "up(" + u + ", 0)", READY, x -> x.up(u, 0));
            isFinding(BEYOND, "up(" + u + ", MAX)", READY, x -> x.up(u, MAX));
        }
    }

    // ---- what is told of a node

    private static void nodeOfTheRoot() {
        sentence("0 DEPTH, 1 how many are below it, and 1, 2 the place of THE TOUR at which it is met first");
        ShapeMinima x = withTree(PARENTS);
        due("DEPTH of the root", x.node(3, 0), 0);
        due("all are below the root, and 1", x.node(3, 1), 10);
        due("it is met at 0", x.node(3, 2), 0);
        due("DEPTH of one that has no son", x.node(9, 0), 3);
        due("none is below it, and 1", x.node(9, 1), 1);
        due("it is met at 3", x.node(9, 2), 3);
        ShapeMinima line = withTree(line(24));
        for (int u = 0; u < 24; u++) {
            due("a line: DEPTH", line.node(u, 0), u);
            due("a line: how many are below it, and 1", line.node(u, 1), 24 - u);
        }
    }

    private static void nodeOfOne() {
        sentence("nodes 0 .. (1)");
        ShapeMinima x = withTree(-1);
        due("node(0, 0)", x.node(0, 0), 0);
        due("node(0, 1)", x.node(0, 1), 1);
        due("node(0, 2)", x.node(0, 2), 0);
        due("apart(0, 0)", x.apart(0, 0), 0);
        due("up(0, 0)", x.up(0, 0), 0);
        found("node(1, 0)", x, 0, x.node(1, 0), BEYOND);
    }

    private static void nodeRefusedForWhat() {
        sentence("STATE: no TREE; BAD: what; BEYOND. (In this order.): what");
        for (int what : new int[] {MIN, -1, 3, 4, MAX}) {
            isBad("node(0, " + what + ")", READY, x -> x.node(0, what));
            isBad("node(10, " + what + ")", READY, x -> x.node(10, what));
            isState("node(0, " + what + "), no TREE", NEW, x -> x.node(0, what));
        }
    }

    private static void nodeRefusedForNodes() {
        sentence("STATE: no TREE; BAD: what; BEYOND. (In this order.): a node");
        for (int what : new int[] {0, 1, 2}) {
            isState("node(0, " + what + ")", ROWS, x -> x.node(0, what));
            for (int u : NO_NODES) {
                isFinding(BEYOND, "node(" + u + ", " + what + ")", READY, x -> x.node(u, what));
            }
        }
    }
}
