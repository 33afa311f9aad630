import java.util.Arrays;

/** The boundary cases of part 1, rows: promises 1 to 6. */
public final class RowsBoundaryTest extends Cases {
    private RowsBoundaryTest() {
    }

    public static void main(String[] args) {
        theFourRows();
        noOtherRows();
        sizesOfRows();
        zerosAtFirst();
        missingAtFirst();
        aNewObject();
        rowTooLarge();
        rowTooSmall();
        layRefused();
        layAtTheEnds();
        atRefused();
        atAtTheEnds();
        tearRefused();
        tearEmptyAndFull();
        copyRefusedForRows();
        copyNotSoManyToTake();
        copyNotSoManyToLay();
        copyBelowNone();
        copyOfNone();
        copyPastTheLargestInt();
        copyOfAll();
        copyTakenAhead();
        EXPECT.end();
    }

    private static void theFourRows() {
        sentence("ROWS 0 .. 3 are rows");
        ShapeMinima x = new ShapeMinima();
        for (int r = 0; r < 4; r++) {
            due("row(" + r + ", 1)", x.row(r, 1), 1);
            due("ROWS that are there", x.count(8), r + 1);
            due("lay(" + r + ", 0, -1)", x.lay(r, 0, -1), 1);
            due("at(" + r + ", 0)", x.at(r, 0), 1);
            due("copy(" + r + ", 0, 0, 0, 1)", x.copy(r, 0, 0, 0, 1), 1);
            due("copy(0, 0, " + r + ", 0, 1)", x.copy(0, 0, r, 0, 1), 1);
            due("build(" + r + ", 1)", x.build(r, 1), 1);
            due("tree(" + r + ")", x.tree(r), 1);
        }
        for (int r = 0; r < 4; r++) {
            due("tear(" + r + ")", x.tear(r), 1);
            due("ROWS that are still there", x.count(8), 3 - r);
        }
    }

    private static void noOtherRows() {
        sentence("BAD -1 (a number that is none, or not as told)");
        for (int r : NO_ROWS) {
            isBad("row(" + r + ", 1)", READY, x -> x.row(r, 1));
            isBad("lay(" + r + ", 0, 1)", READY, x -> x.lay(r, 0, 1));
            isBad("at(" + r + ", 0)", READY, x -> x.at(r, 0));
            isBad("tear(" + r + ")", READY, x -> x.tear(r));
            isBad("copy(" + r + ", 0, 0, 0, 1)", READY, x -> x.copy(r, 0, 0, 0, 1));
            isBad("copy(0, 0, " + r + ", 0, 1)", READY, x -> x.copy(0, 0, r, 0, 1));
            isBad("build(" + r + ", 1)", READY, x -> x.build(r, 1));
            isBad("tree(" + r + ")", READY, x -> x.tree(r));
        }
    }

    private static void sizesOfRows() {
        sentence("rows of 0 to 48 ints");
        for (int n = 0; n <= 48; n++) {
            ShapeMinima x = new ShapeMinima();
            due("row(2, " + n + ")", x.row(2, n), n);
            for (int i = 0; i < n; i++) {
                due("row(2, " + n + "): at(2, " + i + ")", x.at(2, i), 1);
            }
            due("row(2, " + n + "): at(2, " + n + ")", x.at(2, n), FINDING);
            due("row(2, " + n + "): at(2, -1)", x.at(2, -1), FINDING);
            due("row(2, " + n + "): tear(2)", x.tear(2), n);
        }
    }

    private static void zerosAtFirst() {
        sentence("A ROW is there with n ints 0");
        ShapeMinima x = new ShapeMinima();
        int[] full = steps(48, 100, 1);
        layAll(x, 1, full);
        x.row(1, 48);
        sameRow("as many ints anew", x, 1, new int[48]);
        layAll(x, 1, full);
        x.row(1, 3);
        x.row(1, 48);
        sameRow("more ints than last time", x, 1, new int[48]);
        ShapeMinima y = withRow(1, full);
        y.tear(1);
        y.row(1, 48);
        sameRow("behind tear()", y, 1, new int[48]);
        layAll(y, 0, 7, 8, 9);
        y.row(1, 2);
        sameRow("the other ROWS stay", y, 0, 7, 8, 9);
    }

    private static void missingAtFirst() {
        sentence("or missing (at first)");
        for (int r : new int[] {0, 1, 2, 3}) {
            isFinding(NOTHING, "lay(" + r + ", 0, 0)", NEW, x -> x.lay(r, 0, 0));
            isFinding(NOTHING, "at(" + r + ", 0)", NEW, x -> x.at(r, 0));
            isFinding(NOTHING, "tear(" + r + ")", NEW, x -> x.tear(r));
            isFinding(NOTHING, "build(" + r + ", 1)", NEW, x -> x.build(r, 1));
            isFinding(NOTHING, "tree(" + r + ")", NEW, x -> x.tree(r));
            isFinding(NOTHING, "copy(" + r + ", 0, " + r + ", 0, 0)", NEW, x -> x.copy(r, 0, r, 0, 0));
        }
    }

    private static void aNewObject() {
        sentence("No ROWS, no INDEX, no TREE");
        ShapeMinima x = new ShapeMinima();
        due("ROWS", x.count(8), 0);
        due("items", x.count(0), 0);
        due("nodes", x.count(9), 0);
        isState("item(0)", NEW, y -> y.item(0));
        isState("node(0, 0)", NEW, y -> y.node(0, 0));
        isState("undo()", NEW, y -> y.undo());
        isState("on(0)", NEW, y -> y.on(0));
        isState("on(1)", NEW, y -> y.on(1));
    }

    private static void rowTooLarge() {
        sentence("BAD: also n above 48");
        due("row(0, 48)", new ShapeMinima().row(0, 48), 48);
        for (int n : new int[] {49, 50, 96, MAX}) {
            isBad("row(0, " + n + ")", READY, x -> x.row(0, n));
            isBad("row(1, " + n + "), a missing one", READY, x -> x.row(1, n));
        }
    }

    private static void rowTooSmall() {
        sentence("SIZE: below 0");
        due("row(0, 0)", ready().row(0, 0), 0);
        due("an empty ROW is there", ready().tear(3), 0);
        for (int n : BELOW_NONE) {
            isFinding(SIZE, "row(0, " + n + ")", READY, x -> x.row(0, n));
            isFinding(SIZE, "row(1, " + n + "), a missing one", READY, x -> x.row(1, n));
        }
    }

    private static void layRefused() {
        sentence("what it was, told by asked(): 1. BAD; NOTHING; BEYOND.");
        isFinding(NOTHING, "lay(1, 0, 7)", READY, x -> x.lay(1, 0, 7));
        for (int i : NO_ITEMS) {
            isFinding(BEYOND, "lay(0, " + i + ", 7)", READY, x -> x.lay(0, i, 7));
        }
        isFinding(BEYOND, "lay(3, 0, 7), an empty ROW", READY, x -> x.lay(3, 0, 7));
    }

    private static void layAtTheEnds() {
        sentence("Place i of a ROW is v");
        ShapeMinima x = withRow(3, new int[48]);
        due("lay(3, 0, MIN)", x.lay(3, 0, MIN), 1);
        due("it was 0", x.asked(), 0);
        due("lay(3, 47, MAX)", x.lay(3, 47, MAX), 1);
        due("lay(3, 0, 3)", x.lay(3, 0, 3), 1);
        due("it was MIN", x.asked(), MIN);
        due("lay(3, 47, 4)", x.lay(3, 47, 4), 1);
        due("it was MAX", x.asked(), MAX);
        due("lay(3, 47, 4), as it is", x.lay(3, 47, 4), 1);
        due("it was 4", x.asked(), 4);
        int[] due = new int[48];
        due[0] = 3;
        due[47] = 4;
        sameRow("the others stay", x, 3, due);
    }

    private static void atRefused() {
        sentence("Place i of a ROW, told by asked(): 1. BAD; NOTHING; BEYOND.");
        isFinding(NOTHING, "at(1, 0)", READY, x -> x.at(1, 0));
        for (int i : NO_ITEMS) {
            isFinding(BEYOND, "at(0, " + i + ")", READY, x -> x.at(0, i));
        }
        isFinding(BEYOND, "at(3, 0), an empty ROW", READY, x -> x.at(3, 0));
    }

    private static void atAtTheEnds() {
        sentence("Place i of a ROW, told by asked()");
        ShapeMinima x = withRow(0, steps(48, 10, 1));
        due("at(0, 47)", x.at(0, 47), 1);
        due("the last one", x.asked(), 57);
        due("at(0, 0)", x.at(0, 0), 1);
        due("the first one", x.asked(), 10);
    }

    private static void tearRefused() {
        sentence("how many ints it had. BAD; NOTHING.");
        isFinding(NOTHING, "tear(1)", READY, x -> x.tear(1));
        ShapeMinima x = ready();
        due("tear(0)", x.tear(0), 11);
        found("tear(0) again", x, 1, x.tear(0), NOTHING);
        due("the INDEX over it stays", x.count(0), 11);
        due("tear(2)", x.tear(2), 10);
        due("the TREE told by it stays", x.meet(9, 7), 3);
        due("ROWS that are there", x.count(8), 1);
    }

    private static void tearEmptyAndFull() {
        sentence("A ROW is missing: how many ints it had");
        ShapeMinima x = new ShapeMinima();
        x.row(0, 0);
        x.row(3, 48);
        due("tear of none", x.tear(0), 0);
        due("tear of 48", x.tear(3), 48);
        due("none is there", x.count(8), 0);
        due("it can be there again", x.row(0, 1), 1);
    }

    private static void copyRefusedForRows() {
        sentence("NOTHING: either");
        isFinding(NOTHING, "from a missing ROW", READY, x -> x.copy(1, 0, 0, 0, 0));
        isFinding(NOTHING, "to a missing ROW", READY, x -> x.copy(0, 0, 1, 0, 0));
        isFinding(NOTHING, "from a missing ROW to itself", READY, x -> x.copy(1, 0, 1, 0, 0));
    }

    private static void copyNotSoManyToTake() {
        sentence("BEYOND: not so many there");
        due("the last one", ready().copy(2, 9, 0, 0, 1), 1);
        due("all of 10", ready().copy(2, 0, 0, 0, 10), 10);
        isFinding(BEYOND, "one more than the last one", READY, x -> x.copy(2, 9, 0, 0, 2));
        isFinding(BEYOND, "one behind the last one", READY, x -> x.copy(2, 10, 0, 0, 1));
        isFinding(BEYOND, "11 of 10", READY, x -> x.copy(2, 0, 0, 0, 11));
        isFinding(BEYOND, "one of an empty ROW", READY, x -> x.copy(3, 0, 0, 0, 1));
        isFinding(BEYOND, "from -1, none", READY, x -> x.copy(2, -1, 0, 0, 0));
        isFinding(BEYOND, "from -1, one", READY, x -> x.copy(2, -1, 0, 0, 1));
        isFinding(BEYOND, "from MIN", READY, x -> x.copy(2, MIN, 0, 0, 1));
    }

    private static void copyNotSoManyToLay() {
        sentence("BEYOND: not so many there (those of the ROW that they come to)");
        due("over the last one", ready().copy(0, 0, 2, 9, 1), 1);
        due("over all of 10", ready().copy(0, 0, 2, 0, 10), 10);
        isFinding(BEYOND, "one more than the last one", READY, x -> x.copy(0, 0, 2, 9, 2));
        isFinding(BEYOND, "one behind the last one", READY, x -> x.copy(0, 0, 2, 10, 1));
        isFinding(BEYOND, "11 over 10", READY, x -> x.copy(0, 0, 2, 0, 11));
        isFinding(BEYOND, "one into an empty ROW", READY, x -> x.copy(0, 0, 3, 0, 1));
        isFinding(BEYOND, "to -1, none", READY, x -> x.copy(0, 0, 2, -1, 0));
        isFinding(BEYOND, "to -1, one", READY, x -> x.copy(0, 0, 2, -1, 1));
        isFinding(BEYOND, "to MIN", READY, x -> x.copy(0, 0, 2, MIN, 1));
    }

    private static void copyBelowNone() {
        sentence("BEYOND: .. n below 0");
        for (int n : BELOW_NONE) {
            isFinding(BEYOND, "copy(0, 5, 2, 5, " + n + ")", READY, x -> x.copy(0, 5, 2, 5, n));
        }
    }

    private static void copyOfNone() {
        sentence("n places of a ROW, from one on (n is 0)");
        due("from the first one", ready().copy(0, 0, 2, 0, 0), 0);
        due("from one behind the last one", ready().copy(0, 11, 2, 10, 0), 0);
        due("of an empty ROW", ready().copy(3, 0, 3, 0, 0), 0);
        isFinding(BEYOND, "from two behind the last one", READY, x -> x.copy(0, 12, 2, 0, 0));
        isFinding(BEYOND, "to two behind the last one", READY, x -> x.copy(0, 0, 2, 11, 0));
        ShapeMinima x = ready();
        x.copy(0, 3, 2, 0, 0);
        sameRow("none came", x, 2, PARENTS);
    }

    /** Sums that wrap around to something small. */
    private static void copyPastTheLargestInt() {
        sentence("BEYOND: not so many there (a wrap-around)");
        isFinding(BEYOND, "1 and MAX", READY, x -> x.copy(0, 1, 2, 1, MAX));
        isFinding(BEYOND, "MAX and 1", READY, x -> x.copy(0, MAX, 2, 0, 1));
        isFinding(BEYOND, "to MAX, 1", READY, x -> x.copy(0, 0, 2, MAX, 1));
        isFinding(BEYOND, "MAX and MAX", READY, x -> x.copy(0, MAX, 2, MAX, MAX));
        isFinding(BEYOND, "MIN and MIN", READY, x -> x.copy(0, MIN, 2, MIN, MIN));
        isFinding(BEYOND, "MIN and MAX", READY, x -> x.copy(0, MIN, 2, MIN, MAX));
        isFinding(BEYOND, "-1 and MIN", READY, x -> x.copy(0, -1, 2, -1, MIN));
    }

    private static void copyOfAll() {
        sentence("n places of a ROW, from one on, come to those of another one (perhaps itself) from one on");
        int[] all = steps(48, -20, 1);
        ShapeMinima x = withRow(1, all);
        x.row(2, 48);
        due("all 48 to another one", x.copy(1, 0, 2, 0, 48), 48);
        sameRow("there", x, 2, all);
        due("all 48 to itself", x.copy(1, 0, 1, 0, 48), 48);
        sameRow("here", x, 1, all);
        x.lay(1, 0, 99);
        sameRow("they are others' ints", x, 2, all);
    }

    private static void copyTakenAhead() {
        sentence("as if taken ahead");
        for (int shift = 1; shift < 6; shift++) {
            int[] ints = steps(6, 1, 1);
            ShapeMinima x = withRow(0, ints);
            due("to later places", x.copy(0, 0, 0, shift, 6 - shift), 6 - shift);
            int[] later = ints.clone();
            System.arraycopy(Arrays.copyOf(ints, 6), 0, later, shift, 6 - shift);
            sameRow("later by " + shift, x, 0, later);
            x = withRow(0, ints);
            due("to earlier places", x.copy(0, shift, 0, 0, 6 - shift), 6 - shift);
            int[] earlier = ints.clone();
            System.arraycopy(Arrays.copyOf(ints, 6), shift, earlier, 0, 6 - shift);
            sameRow("earlier by " + shift, x, 0, earlier);
        }
    }
}
