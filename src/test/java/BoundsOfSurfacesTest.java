/** Bounds that the document names for TRIANGLES, points, VOLUMES, GAPS, drawn LOGS: its third part, promises 32 to 43. */
public final class BoundsOfSurfacesTest {
    private static final int LEAST = Integer.MIN_VALUE;
    private static final int MOST = Integer.MAX_VALUE;
    private static final int[] NO_TRIANGLE = {-1, 2, 8, LEAST, MOST};
    private static final int[] NO_BED = {-1, 4, LEAST, MOST};
    private static final int[] NO_POINT = {-1, 1000, LEAST, MOST};
    // Rocks that never pair with one another.
    private static final String APART = "rock a;rock b;rock c;unlike a b costs 99;unlike a c costs 99;unlike b c costs 99;";

    public static void main(String[] args) {
        area();
        areaOfOneAcross();
        areaLeastAndMost();
        across();
        acrossByTheLine();
        acrossOneOfTwo();
        triangleAtNumbers();
        triangleAtEdges();
        triangleAtTurnedAbout();
        triangleAtTheFirst();
        triangleAtFarthest();
        topAtNumbers();
        topAtNoTriangle();
        topAtMustHave();
        topAtOnThePlane();
        thickAtNumbers();
        thickAtRunsOut();
        volumeNumbers();
        volumeOfNothing();
        volumeMost();
        volumeOfNumbers();
        volumeOfEach();
        volumeOfNone();
        tiltNumbers();
        tiltRefused();
        tiltAlong();
        deepest();
        deepestOfSeveral();
        shared();
        sharedNone();
        gapsNumbers();
        gapsBetween();
        drawsNumbers();
        drawsPlaces();
        drawsUnits();
        drawsAgrees();
        Desk.end();
    }

    // Promise 32: "The FRACTION is AREA of a TRIANGLE (1)."
    private static void area() {
        BoreDesk desk = Desk.with(Picture.FIELD);
        Desk.fraction(desk, "the first", desk.area(0), 24, 1);
        Desk.fraction(desk, "the last", desk.area(1), 456, 1);
        for (int triangle : NO_TRIANGLE) {
            Picture.denied("area of " + triangle, full -> full.area(triangle), 1);
        }
    }

    // Part 3: "TRIANGLES across a FAULT (its HOLES are not all on one side) count for nothing, but AREA."
    private static void areaOfOneAcross() {
        BoreDesk desk = Desk.with(Picture.FIELD);
        Desk.due(desk, "across", desk.across(1), 1, 0);
        Desk.fraction(desk, "its area", desk.area(1), 456, 1);
        Desk.due(desk, "its volume", desk.volume(2, 1), false, 7);
        Desk.due(desk, "its tilt", desk.tilt(2, 1, 0), false, 7);
        Desk.due(desk, "a point of it", desk.triangleAt(20, 25), -1, 6);
        Desk.due(desk, "the top there", desk.topAt(2, 20, 25), false, 6);
        Desk.due(desk, "the thickness there", desk.thickAt(2, 20, 25), false, 6);
        Desk.fraction(desk, "the volume of the others", desk.volumeOf(0), 96, 1);
    }

    // Promise 32: "AREA of a TRIANGLE" - the least and the greatest there may be
    private static void areaLeastAndMost() {
        BoreDesk desk = Desk.with("hole a at 0 0;hole b at 999 0;hole c at 0 999;hole d at 1 0;hole e at 998 997;hole f at 999 998;"
                + "triangle a b c;triangle c b a;triangle a e f;triangle b c f;");
        Desk.fraction(desk, "the greatest", desk.area(0), 998001, 2);
        Desk.fraction(desk, "the greatest, turned about", desk.area(1), 998001, 2);
        Desk.fraction(desk, "the least", desk.area(2), 1, 2);
        Desk.fraction(desk, "another", desk.area(3), 498501, 1);
    }

    // Promise 33: "1 if a TRIANGLE is across a FAULT, else 0 (1)."
    private static void across() {
        BoreDesk desk = Desk.with(Picture.FIELD);
        Desk.due(desk, "all on the right", desk.across(0), 0, 0);
        Desk.due(desk, "one on the left", desk.across(1), 1, 0);
        for (int triangle : NO_TRIANGLE) {
            Picture.refused("across " + triangle, full -> full.across(triangle), 1);
        }
        BoreDesk none = Desk.with("hole a at 0 0;hole b at 9 0;hole c at 0 9;triangle a b c;");
        Desk.due(none, "without faults", none.across(0), 0, 0);
    }

    // Part 3: "its HOLES are not all on one side" - a HOLE on the line is on its left
    private static void acrossByTheLine() {
        String holes = "hole a at 5 0;hole b at 5 9;hole c at 4 3;hole d at 6 3;hole e at 5 5;hole f at 3 3;"
                + "triangle a b c;triangle a b d;triangle a d c;triangle d e b;triangle c f a;";
        BoreDesk up = Desk.with(holes + "fault x from 5 100 to 5 101 throws 1;");
        int[] due = {0, 1, 1, 1, 0};
        for (int triangle = 0; triangle < 5; triangle++) {
            Desk.due(up, "upwards " + triangle, up.across(triangle), due[triangle], 0);
        }
        BoreDesk down = Desk.with(holes + "fault x from 5 101 to 5 100 throws 0;");
        int[] other = {1, 0, 1, 0, 1};
        for (int triangle = 0; triangle < 5; triangle++) {
            Desk.due(down, "downwards " + triangle, down.across(triangle), other[triangle], 0);
        }
    }

    // Promise 33: "1 if a TRIANGLE is across a FAULT" - of two FAULTS, one that throws nothing
    private static void acrossOneOfTwo() {
        String holes = "rock r;hole a at 0 0 bed r thick 3;hole b at 9 0 bed r thick 3;hole c at 0 9 bed r thick 3;triangle a b c;";
        BoreDesk second = Desk.with(holes + "fault x from 50 0 to 50 9 throws 3;fault y from 5 0 to 5 9 throws 0;");
        Desk.due(second, "across the second", second.across(0), 1, 0);
        Desk.due(second, "no volume", second.volume(0, 0), false, 7);
        BoreDesk first = Desk.with(holes + "fault x from 5 0 to 5 9 throws 3;fault y from 50 0 to 50 9 throws 0;");
        Desk.due(first, "across the first", first.across(0), 1, 0);
        BoreDesk none = Desk.with(holes + "fault x from 50 0 to 50 9 throws 3;fault y from 50 9 to 50 0 throws 7;");
        Desk.due(none, "all on the left of the first, on the right of the second", none.across(0), 0, 0);
        Desk.due(none, "thrown by the second", none.hole(0, 4), 7, 0);
    }

    // Promise 34: "The TRIANGLE of a point (0 to 999 each) (1; 6)."
    private static void triangleAtNumbers() {
        for (int number : NO_POINT) {
            Picture.refused("x " + number, desk -> desk.triangleAt(number, 0), 1);
            Picture.refused("y " + number, desk -> desk.triangleAt(0, number), 1);
        }
        Picture.refused("0 by 999", desk -> desk.triangleAt(0, 999), 6);
        Picture.refused("999 by 0", desk -> desk.triangleAt(999, 0), 6);
        Picture.refused("none there", desk -> desk.triangleAt(4, 3), 6);
        BoreDesk desk = new BoreDesk();
        Desk.due(desk, "no triangles at all", desk.triangleAt(0, 0), -1, 6);
        Desk.due(desk, "1 ahead of 6", desk.triangleAt(1000, 0), -1, 1);
    }

    // Part 3: "At a point (whole numbers) the first TRIANGLE that has it in it or on its edge, and is not across"
    private static void triangleAtEdges() {
        BoreDesk desk = Desk.with("hole a at 10 10;hole b at 16 10;hole c at 10 18;triangle a b c;");
        int[][] in = {{10, 10}, {16, 10}, {10, 18}, {13, 10}, {10, 14}, {13, 14}, {11, 11}, {12, 14}};
        int[][] out = {{9, 10}, {10, 9}, {17, 10}, {16, 11}, {10, 19}, {9, 18}, {11, 18}, {14, 14}, {13, 15}, {16, 9}, {22, 2}, {7, 22}};
        for (int[] point : in) {
            Desk.due(desk, "in " + point[0] + " " + point[1], desk.triangleAt(point[0], point[1]), 0, 0);
        }
        for (int[] point : out) {
            Desk.due(desk, "out " + point[0] + " " + point[1], desk.triangleAt(point[0], point[1]), -1, 6);
        }
    }

    // Part 3: "that has it in it or on its edge" - whichever way its HOLES go round
    private static void triangleAtTurnedAbout() {
        String holes = "hole a at 10 10;hole b at 16 10;hole c at 10 18;";
        for (String order : "a b c,b c a,c a b,a c b,c b a,b a c".split(",")) {
            BoreDesk desk = Desk.with(holes + "triangle " + order + ";");
            Desk.due(desk, "a corner, " + order, desk.triangleAt(16, 10), 0, 0);
            Desk.due(desk, "on an edge, " + order, desk.triangleAt(13, 14), 0, 0);
            Desk.due(desk, "in it, " + order, desk.triangleAt(12, 12), 0, 0);
            Desk.due(desk, "out of it, " + order, desk.triangleAt(14, 14), -1, 6);
        }
    }

    // Part 3: "the first TRIANGLE"
    private static void triangleAtTheFirst() {
        String text = "hole a at 0 0;hole b at 9 0;hole c at 0 9;hole d at 9 9;triangle b c d;triangle a b c;triangle c b a;";
        BoreDesk desk = Desk.with(text);
        Desk.due(desk, "on the edge of both", desk.triangleAt(4, 5), 0, 0);
        Desk.due(desk, "a corner of both", desk.triangleAt(9, 0), 0, 0);
        Desk.due(desk, "in the two that lie on one another", desk.triangleAt(1, 1), 1, 0);
        BoreDesk split = Desk.with(text + "fault f from 8 0 to 8 9 throws 1;");
        Desk.due(split, "all are across", split.triangleAt(4, 5), -1, 6);
        BoreDesk first = Desk.with(text + "fault f from 8 9 to 9 8 throws 1;");
        Desk.due(first, "the first is across", first.triangleAt(4, 5), 1, 0);
    }

    // Terms: "AT x, y (0 to 999 each)" - points and HOLES as far apart as there may be
    private static void triangleAtFarthest() {
        BoreDesk desk = Desk.with("rock r;hole a at 0 0 bed r thick 1;hole b at 999 0 bed r thick 99;hole c at 0 999 bed r thick 50;triangle a b c;");
        Desk.due(desk, "the farthest corner", desk.triangleAt(999, 0), 0, 0);
        Desk.due(desk, "the other one", desk.triangleAt(0, 999), 0, 0);
        Desk.due(desk, "on the long edge", desk.triangleAt(500, 499), 0, 0);
        Desk.due(desk, "one beyond it", desk.triangleAt(500, 500), -1, 6);
        Desk.due(desk, "the farthest point", desk.triangleAt(999, 999), -1, 6);
        Desk.fraction(desk, "thickness at the farthest corner", desk.thickAt(0, 999, 0), 99, 1);
        Desk.fraction(desk, "on the long edge", desk.thickAt(0, 500, 499), 500 * 99 + 499 * 50, 999);
    }

    // Promise 35: "The FRACTION is TOP of a BED at a point (1; 6: no TRIANGLE; 7: a HOLE of it has not the BED)."
    private static void topAtNumbers() {
        for (int bed : NO_BED) {
            Picture.denied("top of bed " + bed, desk -> desk.topAt(bed, 0, 0), 1);
            Picture.denied("1 ahead of 6", desk -> desk.topAt(bed, 999, 999), 1);
        }
        for (int number : NO_POINT) {
            Picture.denied("top at x " + number, desk -> desk.topAt(0, number, 0), 1);
            Picture.denied("top at y " + number, desk -> desk.topAt(0, 0, number), 1);
        }
        BoreDesk desk = Desk.with(Picture.FIELD);
        Desk.due(desk, "one behind the last bed", desk.topAt(3, 0, 0), false, 1);
        Desk.fraction(desk, "the last bed", desk.topAt(2, 0, 0), 13, 1);
    }

    // Promise 35: "6: no TRIANGLE"
    private static void topAtNoTriangle() {
        Picture.denied("no triangle", desk -> desk.topAt(0, 4, 4), 6);
        Picture.denied("6 ahead of 7", desk -> desk.topAt(1, 4, 4), 6);
        Picture.denied("one across alone", desk -> desk.topAt(0, 20, 25), 6);
        Picture.denied("the farthest point", desk -> desk.topAt(0, 999, 999), 6);
    }

    // Part 3: "on the plane through its DEPTHS at the three HOLES, which must have it"
    private static void topAtMustHave() {
        BoreDesk desk = Desk.with(Picture.FIELD);
        Desk.due(desk, "one hole alone has it, at that hole", desk.topAt(1, 0, 0), false, 7);
        Desk.due(desk, "one hole alone has it, at another", desk.topAt(1, 6, 0), false, 7);
        BoreDesk two = Desk.with(APART + "hole g at 0 0 bed a thick 9 bed b thick 9;hole h at 9 0 bed a thick 9 bed b thick 9;"
                + "hole i at 0 9 bed a thick 9;triangle g h i;");
        Desk.due(two, "two holes have it, between them", two.topAt(1, 4, 0), false, 7);
        Desk.fraction(two, "all three have the other", two.topAt(0, 4, 0), 0, 1);
        Picture.denied("a hole of it has not the bed", full -> full.topAt(1, 0, 0), 7);
    }

    // Part 3: "TOP of a BED: on the plane through its DEPTHS at the three HOLES"
    private static void topAtOnThePlane() {
        BoreDesk desk = Desk.with(APART + "hole g at 10 10 bed a thick 9 bed b thick 9;hole h at 13 10 bed a thick 2 bed b thick 9;"
                + "hole i at 10 17 bed a thick 30 bed b thick 9;triangle i g h;"
                + "fault e from 0 0 to 0 9 throws 0;fault f from 99 9 to 99 0 throws 100;");
        Desk.fraction(desk, "at the first hole", desk.topAt(1, 10, 10), 109, 1);
        Desk.fraction(desk, "at the second hole", desk.topAt(1, 13, 10), 102, 1);
        Desk.fraction(desk, "at the third hole", desk.topAt(1, 10, 17), 130, 1);
        Desk.fraction(desk, "on an edge", desk.topAt(1, 11, 10), 320, 3);
        Desk.fraction(desk, "on the other edge", desk.topAt(1, 10, 16), 127, 1);
        Desk.fraction(desk, "in it", desk.topAt(1, 11, 11), 329, 3);
        Desk.fraction(desk, "of the top bed", desk.topAt(0, 11, 11), 100, 1);
    }

    // Promise 36: "The FRACTION is its THICKNESS there (1; 6)."
    private static void thickAtNumbers() {
        for (int bed : NO_BED) {
            Picture.denied("thickness of bed " + bed, desk -> desk.thickAt(bed, 0, 0), 1);
            Picture.denied("1 ahead of 6", desk -> desk.thickAt(bed, 999, 999), 1);
        }
        for (int number : NO_POINT) {
            Picture.denied("thickness at x " + number, desk -> desk.thickAt(0, number, 0), 1);
            Picture.denied("thickness at y " + number, desk -> desk.thickAt(0, 0, number), 1);
        }
        Picture.denied("no triangle", desk -> desk.thickAt(0, 4, 4), 6);
        Picture.denied("one across alone", desk -> desk.thickAt(0, 20, 25), 6);
    }

    // Part 3: "THICKNESS likewise, 0 where a HOLE has it not."
    private static void thickAtRunsOut() {
        BoreDesk desk = Desk.with(Picture.FIELD);
        Desk.fraction(desk, "where it is", desk.thickAt(1, 0, 0), 2, 1);
        Desk.fraction(desk, "half way", desk.thickAt(1, 3, 0), 1, 1);
        Desk.fraction(desk, "where it has run out", desk.thickAt(1, 6, 0), 0, 1);
        Desk.fraction(desk, "on the edge of two that have it not", desk.thickAt(1, 3, 4), 0, 1);
        BoreDesk far = Desk.with(APART + "hole g at 0 0 bed a thick 9;hole h at 9 0 bed a thick 9;hole i at 0 9 bed a thick 9;"
                + "hole j at 99 99 bed a thick 9 bed b thick 9;triangle g h i;");
        Desk.fraction(far, "no hole of it has the bed", far.thickAt(1, 1, 1), 0, 1);
        Desk.due(far, "its top can't be", far.topAt(1, 1, 1), false, 7);
    }

    // Promise 37: "The FRACTION is VOLUME of a BED in a TRIANGLE (1; 7: it is across)."
    private static void volumeNumbers() {
        for (int bed : NO_BED) {
            Picture.denied("volume of bed " + bed, desk -> desk.volume(bed, 0), 1);
            Picture.denied("1 ahead of 7", desk -> desk.volume(bed, 1), 1);
        }
        for (int triangle : NO_TRIANGLE) {
            Picture.denied("volume in triangle " + triangle, desk -> desk.volume(0, triangle), 1);
        }
        Picture.denied("across", desk -> desk.volume(0, 1), 7);
        BoreDesk desk = Desk.with(Picture.FIELD);
        Desk.fraction(desk, "24 by 12 by 3", desk.volume(0, 0), 96, 1);
        Desk.due(desk, "one behind the last bed", desk.volume(3, 0), false, 1);
    }

    // Part 3: "VOLUME of a BED in a TRIANGLE: AREA by the mean of its three thicknesses" - of none
    private static void volumeOfNothing() {
        BoreDesk desk = Desk.with(APART + "hole g at 0 0 bed a thick 9;hole h at 9 0 bed a thick 9;hole i at 0 9 bed a thick 9;"
                + "hole j at 99 99 bed a thick 9 bed b thick 9;triangle g h i;triangle g h j;");
        Desk.fraction(desk, "no hole of it has the bed", desk.volume(1, 0), 0, 1);
        Desk.fraction(desk, "one of three", desk.volume(1, 1), 9 * 99 * 3, 2);
    }

    // Part 3: "AREA by the mean of its three thicknesses" - as much as there may be
    private static void volumeMost() {
        StringBuilder text = new StringBuilder("rock r;hole a at 0 0;hole b at 999 0;hole c at 0 999;");
        text.append("triangle a b c;".repeat(8));
        BoreDesk desk = Desk.with(text.toString());
        for (int hole = 0; hole < 3; hole++) {
            for (int turn = 0; turn < 10; turn++) {
                desk.lay(hole, 0, 99);
            }
            desk.lay(hole, 0, 9);
        }
        Desk.fraction(desk, "in one", desk.volume(0, 0), 998001L * 999, 2);
        Desk.fraction(desk, "in all eight", desk.volumeOf(0), 998001L * 999 * 4, 1);
        Desk.fraction(desk, "as thick as may be", desk.thickAt(0, 333, 333), 999, 1);
    }

    // Promise 38: "The FRACTION is VOLUME of a BED in all TRIANGLES that are not across (1)."
    private static void volumeOfNumbers() {
        for (int bed : NO_BED) {
            Picture.denied("volume of bed " + bed, desk -> desk.volumeOf(bed), 1);
        }
        BoreDesk desk = Desk.with(Picture.FIELD);
        Desk.due(desk, "one behind the last bed", desk.volumeOf(3), false, 1);
        Desk.fraction(desk, "the last bed", desk.volumeOf(2), 128, 1);
    }

    // Part 3: "of all TRIANGLES together (where they lie on one another: each)."
    private static void volumeOfEach() {
        BoreDesk desk = Desk.with("rock r;hole a at 0 0 bed r thick 1;hole b at 1 0 bed r thick 1;hole c at 0 1 bed r thick 2;"
                + "triangle a b c;triangle a b c;triangle c b a;");
        Desk.fraction(desk, "one", desk.volume(0, 1), 2, 3);
        Desk.fraction(desk, "each of three", desk.volumeOf(0), 2, 1);
    }

    // Promise 38: "in all TRIANGLES that are not across" - in none
    private static void volumeOfNone() {
        BoreDesk none = Desk.with("rock r;hole a at 0 0 bed r thick 1;");
        Desk.fraction(none, "there are none", none.volumeOf(0), 0, 1);
        BoreDesk split = Desk.with("rock r;hole a at 0 0 bed r thick 1;hole b at 9 0 bed r thick 1;hole c at 0 9 bed r thick 2;"
                + "triangle a b c;fault f from 5 0 to 5 9 throws 1;");
        Desk.fraction(split, "all are across", split.volumeOf(0), 0, 1);
    }

    // Promise 39: "The FRACTION is TILT along x (what 0), y (1)"
    private static void tiltNumbers() {
        for (int bed : NO_BED) {
            Picture.denied("tilt of bed " + bed, desk -> desk.tilt(bed, 0, 0), 1);
            Picture.denied("1 ahead of 7", desk -> desk.tilt(bed, 1, 0), 1);
        }
        for (int triangle : NO_TRIANGLE) {
            Picture.denied("tilt in triangle " + triangle, desk -> desk.tilt(0, triangle, 0), 1);
        }
        for (int what : new int[] {-1, 2, LEAST, MOST}) {
            Picture.denied("tilt's what " + what, desk -> desk.tilt(0, 0, what), 1);
            Picture.denied("1 ahead of 7, what", desk -> desk.tilt(0, 1, what), 1);
        }
    }

    // Promise 39: "(1; 7: across, or a HOLE of it has not the BED)"
    private static void tiltRefused() {
        Picture.denied("across", desk -> desk.tilt(2, 1, 0), 7);
        Picture.denied("a hole of it has not the bed", desk -> desk.tilt(1, 0, 1), 7);
        BoreDesk desk = Desk.with(APART + "hole g at 0 0 bed a thick 9 bed b thick 9;hole h at 9 0 bed a thick 9 bed b thick 9;"
                + "hole i at 0 9 bed a thick 9;triangle g h i;triangle h i g;triangle i g h;");
        for (int triangle = 0; triangle < 3; triangle++) {
            Desk.due(desk, "the one without it stands " + triangle, desk.tilt(1, triangle, 0), false, 7);
            Desk.fraction(desk, "all have the other", desk.tilt(0, triangle, 0), 0, 1);
        }
    }

    // Part 3: "TILT of a BED in a TRIANGLE: by how much its top's DEPTH grows for each unit along x, along y."
    private static void tiltAlong() {
        String holes = APART + "hole g at 0 0 bed a thick 50 bed b thick 9;hole h at 7 0 bed a thick 53 bed b thick 9;"
                + "hole i at 0 9 bed a thick 46 bed b thick 9;";
        for (String order : "g h i,h i g,i g h,g i h,h g i,i h g".split(",")) {
            BoreDesk desk = Desk.with(holes + "triangle " + order + ";");
            Desk.fraction(desk, "along x, " + order, desk.tilt(1, 0, 0), 3, 7);
            Desk.fraction(desk, "along y, " + order, desk.tilt(1, 0, 1), -4, 9);
            Desk.fraction(desk, "level, " + order, desk.tilt(0, 0, 1), 0, 1);
        }
    }

    // Promise 40: "DEEPEST (1)."
    private static void deepest() {
        for (int bed : NO_BED) {
            Picture.refused("deepest of bed " + bed, desk -> desk.deepest(bed), 1);
        }
        BoreDesk desk = Desk.with(Picture.FIELD);
        Desk.due(desk, "a bed of one hole", desk.deepest(1), 0, 0);
        Desk.due(desk, "one behind the last bed", desk.deepest(3), -1, 1);
    }

    // Part 3: "DEEPEST: the HOLE in which a BED's top has the greatest DEPTH, of several the first."
    private static void deepestOfSeveral() {
        BoreDesk desk = Desk.with(APART + "hole g at 0 0 bed a thick 3;hole h at 1 0 bed b thick 2 bed a thick 3;"
                + "hole i at 2 0 bed b thick 2 bed a thick 3;hole j at 3 0 bed b thick 1 bed a thick 3;fault f from 2 9 to 2 8 throws 0;");
        Desk.due(desk, "at 0, 2, 2, 1", desk.deepest(0), 1, 0);
        Desk.due(desk, "b, all at 0", desk.deepest(1), 1, 0);
        desk.throwing(0, 2);
        Desk.due(desk, "at 2, 4, 2, 1", desk.deepest(0), 1, 0);
        BoreDesk other = Desk.with("rock a;hole g at 0 0 bed a thick 1;hole h at 1 0 bed a thick 1;fault f from 0 0 to 0 9 throws 1;");
        Desk.due(other, "by the throw alone", other.deepest(0), 1, 0);
        other.throwing(0, 0);
        Desk.due(other, "all at 0: the first", other.deepest(0), 0, 0);
    }

    // Promise 41: "SHARED (1: one and itself, too)."
    private static void shared() {
        for (int hole = 0; hole < 4; hole++) {
            int same = hole;
            Picture.refused("shared of one and itself", desk -> desk.shared(same, same), 1);
        }
        for (int hole : new int[] {-1, 4, LEAST, MOST}) {
            Picture.refused("shared " + hole + " 0", desk -> desk.shared(hole, 0), 1);
            Picture.refused("shared 0 " + hole, desk -> desk.shared(0, hole), 1);
            Picture.refused("shared of none and itself", desk -> desk.shared(hole, hole), 1);
        }
    }

    // Part 3: "SHARED: how many BEDS two HOLES both have." - none, and as many as there may be
    private static void sharedNone() {
        BoreDesk desk = Desk.with(APART + "hole g at 0 0;hole h at 1 0;hole i at 2 0;");
        Desk.due(desk, "no layers", desk.shared(0, 1), 0, 0);
        for (int i = 0; i < 12; i++) {
            desk.lay(0, i % 2, 9);
            desk.lay(1, i % 2, 9);
            desk.lay(2, 2, 9);
        }
        Desk.due(desk, "twelve", desk.shared(0, 1), 12, 0);
        Desk.due(desk, "twelve, the other way", desk.shared(1, 0), 12, 0);
        desk.wear(1, 9);
        Desk.due(desk, "eleven", desk.shared(0, 1), 11, 0);
    }

    // Promise 42: "GAPS of a HOLE (1)."
    private static void gapsNumbers() {
        for (int hole : new int[] {-1, 4, LEAST, MOST}) {
            Picture.refused("gaps of hole " + hole, desk -> desk.gaps(hole), 1);
        }
        BoreDesk bare = Desk.with("hole g at 0 0;");
        Desk.due(bare, "no layers", bare.gaps(0), 0, 0);
    }

    // Part 3: "GAPS of a HOLE: how many BEDS it has not, above which is one that it has, and which are ABOVE one that it has."
    private static void gapsBetween() {
        String rocks = APART + "rock d;rock e;unlike a d costs 99;unlike b d costs 99;unlike c d costs 99;"
                + "unlike a e costs 99;unlike b e costs 99;unlike c e costs 99;unlike d e costs 99;";
        BoreDesk desk = Desk.with(rocks + "hole g at 0 0 bed a thick 9 bed b thick 9 bed c thick 9 bed d thick 9 bed e thick 9;"
                + "hole h at 0 1 bed b thick 9 bed d thick 9;hole i at 1 0 bed a thick 9 bed e thick 9;"
                + "hole j at 0 2 bed c thick 9;hole k at 0 999;");
        Desk.due(desk, "five beds", desk.beds(), 6, 0);
        Desk.due(desk, "it has all", desk.gaps(0), 0, 0);
        Desk.due(desk, "c alone is between b and d", desk.gaps(1), 1, 0);
        Desk.due(desk, "b, c, d are between a and e", desk.gaps(2), 3, 0);
        Desk.due(desk, "one layer has nothing between", desk.gaps(3), 0, 0);
        Desk.due(desk, "no layers", desk.gaps(4), 0, 0);
    }

    // Promise 43: "The CODED LOG that agrees with a HOLE everywhere comes to a TRAY, unit by unit, as far as there are places and units: how many (1; 2)."
    private static void drawsNumbers() {
        for (int hole : new int[] {-1, 4, LEAST, MOST}) {
            Picture.refused("draws of hole " + hole, desk -> desk.draws(hole, 0), 1);
        }
        for (int tray : new int[] {-1, 4, LEAST, MOST}) {
            Picture.refused("draws to tray " + tray, desk -> desk.draws(0, tray), 1);
        }
        Picture.refused("a missing tray", desk -> desk.draws(0, 3), 2);
        Picture.refused("1 ahead of 2", desk -> desk.draws(4, 3), 1);
    }

    // Promise 43: "as far as there are places"
    private static void drawsPlaces() {
        BoreDesk desk = Desk.with(Picture.FIELD);
        desk.tray(0, 0, 0);
        Desk.due(desk, "no places", desk.draws(0, 0), 0, 0);
        desk.tray(0, 0, 1);
        desk.write(0, 0, 9);
        Desk.due(desk, "one place", desk.draws(0, 0), 1, 0);
        Desk.due("the first unit", desk.read(0, 0), 0);
        desk.tray(0, 1, 11);
        Desk.due(desk, "a place less than there are units", desk.draws(0, 0), 11, 0);
        desk.tray(0, 1, 12);
        Desk.due(desk, "as many as there are units", desk.draws(0, 0), 12, 0);
        int[] due = {0, 0, 0, 0, 1, 1, 2, 2, 2, 2, 2, 2};
        for (int unit = 0; unit < 12; unit++) {
            Desk.due("unit " + unit, desk.read(0, unit), due[unit]);
        }
        BoreDesk deep = Desk.with("rock a;rock b;hole h at 0 0 bed b thick 59 bed a thick 99;");
        deep.tray(3, 3, 60);
        Desk.due(deep, "sixty places", deep.draws(0, 3), 60, 0);
        Desk.due("unit 58", deep.read(3, 58), 1);
        Desk.due("unit 59", deep.read(3, 59), 0);
    }

    // Promise 43: "as far as there are places and units: how many"
    private static void drawsUnits() {
        BoreDesk desk = Desk.with("rock a;rock b;hole g at 0 0 bed b thick 2;hole h at 1 1;");
        Desk.write(desk, 0, 7, 7, 7);
        Desk.due(desk, "no units", desk.draws(1, 0), 0, 0);
        Desk.due("as it was", desk.read(0, 0), 7);
        Desk.due(desk, "two units", desk.draws(0, 0), 2, 0);
        Desk.due("unit 1", desk.read(0, 1), 1);
        Desk.due("behind the units as it was", desk.read(0, 2), 7);
    }

    // Promise 43: "The CODED LOG that agrees with a HOLE everywhere"
    private static void drawsAgrees() {
        BoreDesk desk = Desk.with(Picture.FIELD);
        for (int sort = 0; sort <= 3; sort++) {
            desk.tray(sort, sort, 12);
            Desk.due(desk, "drawn", desk.draws(0, sort), 12, 0);
            Desk.due(desk, "it agrees everywhere", desk.agrees(sort, 12, 0), 12, 0);
        }
    }
}
