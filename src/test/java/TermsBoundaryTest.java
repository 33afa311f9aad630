import java.util.function.Supplier;

/** The boundary cases of 'What it is' and 'Terms': how long an object is used, what is refused in which order. */
public final class TermsBoundaryTest extends Cases {
    private TermsBoundaryTest() {
    }

    public static void main(String[] args) {
        theLastCallOfAnObject();
        refusedCallsToTheEnd();
        badAheadOfState();
        badAheadOfFindings();
        stateAheadOfFindings();
        stateAheadOfFindingsInATree();
        stateAheadOfBad();
        noneIsNotRefused();
        nothingAheadOfBeyond();
        nothingAheadOfSize();
        sizeAheadOfUnlike();
        oneFindingForSeveralFaults();
        firstPlaces();
        lastPlaces();
        anyIntIsTold();
        EXPECT.end();
    }

    private static void theLastCallOfAnObject() {
        sentence("An object is used for at most 512 calls after it has been made");
        ShapeMinima x = withItems(6, new int[48]);
        // 50 calls so far; 450 puts, of which ten are undone, then two more calls.
        for (int k = 0; k < 450; k++) {
            due("put " + k, x.put(47, -1 - k), k == 0 ? 1 : 0);
        }
        for (int k = 9; k >= 0; k--) {
            due("undo()", x.undo(), k);
        }
        due("the 511th call, least(0, 47)", x.least(0, 47), 47);
        due("the 512th call, asked()", x.asked(), -440);
    }

    private static void refusedCallsToTheEnd() {
        sentence("How often a FINDING (1 .. 4) was answered");
        ShapeMinima x = new ShapeMinima();
        for (int k = 0; k < 510; k++) {
            due("tear(0)", x.tear(0), FINDING);
        }
        due("the 511th call, findings(1)", x.findings(NOTHING), 510);
        due("the 512th call, finding()", x.finding(), NOTHING);
    }

    private static void badAheadOfState() {
        sentence("Refused is, the first of these that fits, in this order: BAD -1");
        isBad("keep(2), no INDEX", NEW, x -> x.keep(2));
        isBad("keep(-1), no INDEX", NEW, x -> x.keep(-1));
        isBad("on(2), none kept", NEW, x -> x.on(2));
        isBad("on(-1), none kept", READY, x -> x.on(-1));
    }

    private static void badAheadOfFindings() {
        sentence("BAD -1 (a number that is none, or not as told), STATE -2 (as told), FINDING -3");
        isBad("row(4, -1)", READY, x -> x.row(4, -1));
        isBad("row(-1, -1)", READY, x -> x.row(-1, -1));
        isBad("lay(4, -1, 0)", READY, x -> x.lay(4, -1, 0));
        isBad("at(-1, 99)", READY, x -> x.at(-1, 99));
        isBad("copy from none, to a missing ROW", READY, x -> x.copy(4, 0, 1, 0, 0));
        isBad("copy from a missing ROW to none", READY, x -> x.copy(1, 0, 4, 0, 0));
        isBad("copy from none, n below 0", READY, x -> x.copy(-1, 0, 0, 0, -1));
        isBad("copy to none, not so many there", READY, x -> x.copy(0, 9, -1, 0, 9));
        isBad("build of a missing ROW, B 0", READY, x -> x.build(1, 0));
        isBad("build of a missing ROW, B 7", READY, x -> x.build(1, 7));
        isBad("build of an empty ROW, B 0", READY, x -> x.build(3, 0));
        isBad("build of an empty ROW, B 7", READY, x -> x.build(3, 7));
        isBad("build(4, 3)", READY, x -> x.build(4, 3));
        isBad("tree(4)", READY, x -> x.tree(4));
    }

    private static void stateAheadOfFindings() {
        sentence("STATE -2 (as told), FINDING -3 (finding() tells which)");
        for (int i : new int[] {MIN, -1, 0, 99, MAX}) {
            isState("put(" + i + ", 0)", ROWS, x -> x.put(i, 0));
            isState("item(" + i + ")", ROWS, x -> x.item(i));
            isState("shape(" + i + ")", ROWS, x -> x.shape(i));
            isState("left(" + i + ")", ROWS, x -> x.left(i));
            isState("right(" + i + ")", ROWS, x -> x.right(i));
            isState("owns(" + i + ")", ROWS, x -> x.owns(i));
            isState("parent(" + i + ")", ROWS, x -> x.parent(i));
            isState("depth(" + i + ")", ROWS, x -> x.depth(i));
            isState("size(" + i + ")", ROWS, x -> x.size(i));
            isState("least(" + i + ", -1)", ROWS, x -> x.least(i, -1));
            isState("kth(" + i + ", -1, -1)", ROWS, x -> x.kth(i, -1, -1));
            isState("above(" + i + ", -1)", ROWS, x -> x.above(i, -1));
            isState("alike(" + i + ", 0, -1)", ROWS, x -> x.alike(i, 0, -1));
        }
        isState("undo(), none", ROWS, x -> x.undo());
    }

    private static void stateAheadOfFindingsInATree() {
        sentence("STATE: no TREE; BEYOND: a node");
        for (int u : new int[] {MIN, -1, 0, 99, MAX}) {
            isState("meet(" + u + ", -1)", ROWS, x -> x.meet(u, -1));
            isState("apart(" + u + ", -1)", ROWS, x -> x.apart(u, -1));
            isState("up(" + u + ", -1)", ROWS, x -> x.up(u, -1));
            isState("node(" + u + ", 0)", ROWS, x -> x.node(u, 0));
        }
    }

    private static void stateAheadOfBad() {
        sentence("(In this order.)");
        isState("entry of no SHAPE, no INDEX", ROWS, x -> x.entry(-1, 0, 0));
        isState("entry of no SHAPE, no places, no INDEX", ROWS, x -> x.entry(MAX, 1, 0));
        isState("node of no what, no TREE", ROWS, x -> x.node(0, 3));
        isState("node of no what, no node, no TREE", ROWS, x -> x.node(-1, -1));
        isBad("entry of no SHAPE, no places", READY, x -> x.entry(0, 5, 1));
        isBad("node of no what, no node", READY, x -> x.node(10, 3));
    }

    private static void noneIsNotRefused() {
        sentence("NONE -9");
        ShapeMinima x = ready();
        due("left(0)", x.left(0), NONE);
        due("right(10)", x.right(10), NONE);
        due("parent of the one above all", x.parent(6), NONE);
        due("above(6, 1)", x.above(6, 1), NONE);
        due("up(3, 1)", x.up(3, 1), NONE);
        due("finding() as before", x.finding(), UNLIKE);
        for (int f = 1; f <= 4; f++) {
            due("findings(" + f + ") as before", x.findings(f), 1);
        }
    }

    private static void nothingAheadOfBeyond() {
        sentence("FINDINGS, the first of these: 1 NOTHING (a ROW that is missing), 2 BEYOND (a place that there is not)");
        isFinding(NOTHING, "lay(1, -1, 0)", READY, x -> x.lay(1, -1, 0));
        isFinding(NOTHING, "at(1, MAX)", READY, x -> x.at(1, MAX));
        isFinding(NOTHING, "copy from a missing ROW, n below 0", READY, x -> x.copy(1, 0, 0, 0, -1));
        isFinding(NOTHING, "copy to a missing ROW, no such place", READY, x -> x.copy(0, 99, 1, 0, 1));
        isFinding(NOTHING, "copy from a missing ROW, no such place to come to", READY, x -> x.copy(1, 0, 0, -1, 1));
        isFinding(NOTHING, "copy of a missing ROW to itself", READY, x -> x.copy(1, 5, 1, 5, 5));
    }

    private static void nothingAheadOfSize() {
        sentence("1 NOTHING (a ROW that is missing), .. 3 SIZE (fewer than none; not as many as due)");
        isFinding(NOTHING, "build of a ROW that never was", NEW, x -> x.build(3, 1));
        isFinding(NOTHING, "tree of a ROW that never was", NEW, x -> x.tree(3));
        Supplier<ShapeMinima> torn = () -> {
            ShapeMinima x = ready();
            x.tear(3);
            return x;
        };
        isFinding(NOTHING, "build of a ROW that was torn, empty", torn, x -> x.build(3, 1));
        isFinding(NOTHING, "tree of a ROW that was torn, empty", torn, x -> x.tree(3));
        isFinding(SIZE, "build of an empty ROW", READY, x -> x.build(3, 1));
        isFinding(SIZE, "tree of an empty ROW", READY, x -> x.tree(3));
    }

    private static void sizeAheadOfUnlike() {
        sentence("3 SIZE (fewer than none; not as many as due), 4 UNLIKE (parents that make no tree)");
        Supplier<ShapeMinima> noRoot = () -> withRow(0, new int[25]);
        isFinding(SIZE, "25 parents without a root", noRoot, x -> x.tree(0));
        Supplier<ShapeMinima> noRootIn24 = () -> withRow(0, new int[24]);
        isFinding(UNLIKE, "24 parents without a root", noRootIn24, x -> x.tree(0));
    }

    private static void oneFindingForSeveralFaults() {
        sentence("FINDINGS, the first of these");
        isFinding(NOTHING, "copy between missing ROWS", NEW, x -> x.copy(0, -1, 1, -1, -1));
        isFinding(BEYOND, "copy with no place right", READY, x -> x.copy(0, -1, 2, 99, -1));
        isFinding(BEYOND, "kth with no place right", READY, x -> x.kth(-1, -2, -3));
        isFinding(BEYOND, "alike with no place right", READY, x -> x.alike(-1, 99, -3));
        isFinding(BEYOND, "meet of no nodes", READY, x -> x.meet(-1, 10));
        isFinding(BEYOND, "up of no node to no DEPTH", READY, x -> x.up(10, -1));
        isFinding(BEYOND, "above of no item by fewer than none", READY, x -> x.above(11, -1));
    }

    private static void firstPlaces() {
        sentence("Places, nodes go from 0 on");
        ShapeMinima x = ready();
        due("at(0, 0)", x.at(0, 0), 1);
        due("int 0", x.asked(), 5);
        due("item(0)", x.item(0), 1);
        due("item 0", x.asked(), 4);
        due("shape(0)", x.shape(0), 27);
        due("entry(27, 0, 0)", x.entry(27, 0, 0), 0);
        due("kth(0, 0, 0)", x.kth(0, 0, 0), 0);
        due("meet(0, 0)", x.meet(0, 0), 0);
        due("the place of the root", x.node(3, 2), 0);
    }

    private static void lastPlaces() {
        sentence("2 BEYOND (a place that there is not)");
        ShapeMinima x = ready();
        due("at(0, 10)", x.at(0, 10), 1);
        due("item(10)", x.item(10), 1);
        due("shape(3)", x.shape(3), 13);
        due("least(10, 10)", x.least(10, 10), 10);
        due("meet(9, 9)", x.meet(9, 9), 9);
        isFinding(BEYOND, "at(0, 11)", READY, y -> y.at(0, 11));
        isFinding(BEYOND, "item(11)", READY, y -> y.item(11));
        isFinding(BEYOND, "shape(4)", READY, y -> y.shape(4));
        isFinding(BEYOND, "least(11, 11)", READY, y -> y.least(11, 11));
        isFinding(BEYOND, "meet(10, 10)", READY, y -> y.meet(10, 10));
    }

    /** Numbers that answers have a meaning for, too, are told as they are. */
    private static void anyIntIsTold() {
        sentence("Ints of ROWS, items are told by asked()");
        int[] some = {MIN, MIN + 1, BAD, STATE, FINDING, NONE, 0, 1, MAX - 1, MAX};
        ShapeMinima x = withItems(4, some);
        for (int i = 0; i < some.length; i++) {
            due("at(0, " + i + ")", x.at(0, i), 1);
            due("at tells " + some[i], x.asked(), some[i]);
            due("item(" + i + ")", x.item(i), 1);
            due("item tells " + some[i], x.asked(), some[i]);
            due("least(" + i + ", " + i + ")", x.least(i, i), i);
            due("least tells " + some[i], x.asked(), some[i]);
            due("kth(" + i + ", " + i + ", 0)", x.kth(i, i, 0), i);
            due("kth tells " + some[i], x.asked(), some[i]);
            due("lay(0, " + i + ", 5)", x.lay(0, i, 5), 1);
            due("lay tells " + some[i], x.asked(), some[i]);
            x.put(i, 5);
            due("put tells " + some[i], x.asked(), some[i]);
        }
    }
}
