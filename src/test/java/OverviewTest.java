/** The document's first sentence, part by part, on one desk. */
public final class OverviewTest {
    private static final String FIELD = Picture.FIELD;

    public static void main(String[] args) {
        rocksAndCosts();
        holesAsText();
        matchedByTheLeastCost();
        acrossManyByATree();
        bedsThatRunThrough();
        whichIsAbove();
        topsThicknessesVolumes();
        noneAcrossAFault();
        logsAsRowsWithGaps();
        logsPickedComparedShifted();
        yearsByDraws();
        marksTakenBackTo();
        Desk.end();
    }

    // Head: "A desk for bore holes: rocks and what unlike ones and left out ones cost"
    private static void rocksAndCosts() {
        BoreDesk desk = Desk.with(FIELD);
        int[] skips = {3, 5, 0};
        int[][] unlike = {{0, 4, 9}, {4, 0, 9}, {9, 9, 0}};
        Desk.due(desk, "rocks", desk.told(0), 3, 0);
        for (int a = 0; a < 3; a++) {
            Desk.due(desk, "left out: " + a, desk.skip(a), skips[a], 0);
            for (int b = 0; b < 3; b++) {
                Desk.due(desk, "unlike: " + a + " " + b, desk.unlike(a, b), unlike[a][b], 0);
            }
        }
    }

    // Head: "holes with layers, triangles, faults as a text"
    private static void holesAsText() {
        BoreDesk desk = new BoreDesk();
        Desk.due(desk, "holes of the text", Desk.field(desk, FIELD), 4, 0);
        int[][] layers = {{0, 4, 1, 2, 2, 6}, {0, 5, 2, 6}, {0, 3, 2, 4}, {2, 1}};
        for (int hole = 0; hole < 4; hole++) {
            Desk.due(desk, "layers of " + hole, desk.hole(hole, 2), layers[hole].length / 2, 0);
            for (int i = 0; i < layers[hole].length; i++) {
                Desk.due(desk, "layer " + i / 2 + " of " + hole, desk.layer(hole, i / 2, i % 2), layers[hole][i], 0);
            }
        }
        Desk.due(desk, "triangles", desk.told(2), 2, 0);
        Desk.due(desk, "faults", desk.told(3), 1, 0);
    }

    // Head: "layers of two holes matched by the least cost"
    private static void matchedByTheLeastCost() {
        BoreDesk desk = Desk.with(FIELD);
        // a with a: 1, b left out: 5 and 2, c with c: 0.
        Desk.due(desk, "the least cost", desk.match(0, 1), 8, 0);
        Desk.due(desk, "a with a", desk.pairOf(0), 0, 0);
        Desk.due(desk, "b left out", desk.pairOf(1), -1, 6);
        Desk.due(desk, "c with c", desk.pairOf(2), 1, 0);
    }

    // Head: "across many by a tree of nearest ones"
    private static void acrossManyByATree() {
        BoreDesk desk = Desk.with(FIELD);
        int[][] tree = {{0, 1, 36}, {0, 2, 64}, {2, 3, 8784}};
        for (int k = 0; k < 3; k++) {
            for (int what = 0; what < 3; what++) {
                Desk.due(desk, "couple " + k + " " + what, desk.tree(k, what), tree[k][what], 0);
            }
        }
        Desk.due(desk, "8 and 10 and 9", desk.treeCost(), 27, 0);
    }

    // Head: "beds that run through"
    private static void bedsThatRunThrough() {
        BoreDesk desk = Desk.with(FIELD);
        int[] holes = {1 + 2 + 4, 1, 1 + 2 + 4 + 8};
        Desk.due(desk, "beds", desk.beds(), 3, 0);
        for (int bed = 0; bed < 3; bed++) {
            Desk.due(desk, "holes of " + bed, desk.holesOf(bed), holes[bed], 0);
        }
        Desk.due(desk, "c runs through all", desk.widest(), 2, 0);
    }

    // Head: "which bed is above which"
    private static void whichIsAbove() {
        BoreDesk desk = Desk.with(FIELD);
        for (int a = 0; a < 3; a++) {
            Desk.due(desk, "in order", desk.order(a), a, 0);
            for (int b = 0; b < 3; b++) {
                Desk.due(desk, a + " above " + b, desk.above(a, b), a < b ? 1 : 0, 0);
            }
        }
    }

    // Head: "tops, thicknesses, volumes by exact parts over triangles"
    private static void topsThicknessesVolumes() {
        BoreDesk desk = Desk.with(FIELD);
        // c is at 13, 12, 10; a is 4, 5, 3 thick. At 1, 1 the holes count 34, 8, 6 of 48.
        Desk.fraction(desk, "top of c", desk.topAt(2, 1, 1), 299, 24);
        Desk.fraction(desk, "thickness of a", desk.thickAt(0, 1, 1), 97, 24);
        Desk.fraction(desk, "volume of a", desk.volume(0, 0), 96, 1);
        desk.wear(0, 1);
        Desk.fraction(desk, "volume of a, worn by 1", desk.volume(0, 0), 88, 1);
        Desk.fraction(desk, "thickness of a, worn by 1", desk.thickAt(0, 1, 1), 10, 3);
    }

    // Head: "none across a fault"
    private static void noneAcrossAFault() {
        BoreDesk desk = Desk.with(FIELD);
        Desk.due(desk, "across", desk.across(1), 1, 0);
        Desk.due(desk, "no volume", desk.volume(2, 1), false, 7);
        Desk.due(desk, "no tilt", desk.tilt(2, 1, 0), false, 7);
        Desk.due(desk, "no thickness", desk.thickAt(2, 20, 25), false, 6);
        Desk.fraction(desk, "of all that are not", desk.volumeOf(2), 128, 1);
    }

    // Head: "logs as rows with gaps"
    private static void logsAsRowsWithGaps() {
        BoreDesk desk = new BoreDesk();
        Desk.write(desk, 0, -1, 4, -1, -1, 7, -1);
        Desk.due(desk, "rows of alike ones", desk.runs(0, 6), 5, 0);
        Desk.due(desk, "three gaps are filled", desk.fill(0, 6), 3, 0);
        long[] due = {-1, 4, 4, 4, 7, 7};
        for (int k = 0; k < 6; k++) {
            Desk.due(desk, "place " + k, desk.read(0, k), due[k], 0);
        }
    }

    // Head: "picked, compared, shifted till they fit"
    private static void logsPickedComparedShifted() {
        BoreDesk desk = Desk.with(FIELD);
        Desk.write(desk, 0, 2, 9, -1, 8, 3, 9);
        Desk.due(desk, "picked", desk.picks(0, 6, 5, 2), 2, 0);
        Desk.due(desk, "at 1", desk.pickAt(0), 1, 0);
        Desk.due(desk, "at 5", desk.pickAt(1), 5, 0);
        // a, a, b, b, c: hole g from its unit 2 on.
        Desk.write(desk, 1, 0, 0, 1, 1, 2);
        Desk.due(desk, "as it is", desk.agrees(1, 5, 0), 2, 0);
        Desk.due(desk, "shifted by", desk.shift(1, 5, 0, 0), 2, 0);
        Desk.due(desk, "fits at all places", desk.shift(1, 5, 0, 1), 5, 0);
        Desk.due(desk, "like i at three", desk.agrees(1, 5, 2), 3, 0);
        Desk.due(desk, "the likest", desk.likest(1, 5), 2, 0);
    }

    // Head: "years that lay down and wear off as a text, by draws"
    private static void yearsByDraws() {
        BoreDesk desk = Desk.with(FIELD);
        Desk.due(desk, "steps", Desk.years(desk, "lay g b 2;storm 5;"), 2, 0);
        Desk.due(desk, "lived", desk.live(5), 2, 0);
        // From seed 5: 23,436, 14,075, 36,370, 18,065, by 8 and by 5: 4, 4, 1, 3, of which j has 1.
        int[] left = {14 - 4, 11 - 4, 7 - 1, 0};
        for (int hole = 0; hole < 4; hole++) {
            Desk.due(desk, "left of " + hole, desk.hole(hole, 3), left[hole], 0);
        }
        Desk.due(desk, "laid down", desk.lived(1), 2, 0);
        Desk.due(desk, "worn off", desk.lived(2), 4 + 4 + 1 + 1, 0);
    }

    // Head: "marks to which all is taken back."
    private static void marksTakenBackTo() {
        BoreDesk desk = Desk.with(FIELD);
        Desk.due(desk, "a mark", desk.mark(), 1, 0);
        desk.lay(0, 2, 9);
        desk.wear(1, 99);
        desk.throwing(0, 0);
        Desk.field(desk, "rock z;");
        Desk.due(desk, "taken back", desk.back(), 0, 0);
        Desk.due(desk, "layers", desk.hole(0, 2), 3, 0);
        Desk.due(desk, "thickness", desk.hole(1, 3), 11, 0);
        Desk.due(desk, "throw", desk.hole(2, 4), 7, 0);
    }
}
