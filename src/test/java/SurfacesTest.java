/** Promises 32 to 43: AREAS, points, TOPS, THICKNESS, VOLUMES, TILT, DEEPEST, SHARED, GAPS, drawn LOGS. */
public final class SurfacesTest {
    private static final String GROUND = "rock a;rock b;unlike a b costs 99;"
            + "hole g at 0 0 bed a thick 4 bed b thick 9;"
            + "hole h at 6 0 bed a thick 3 bed b thick 7;"
            + "hole i at 0 8 bed a thick 5;"
            + "hole j at 100 50 bed a thick 2 bed b thick 1;"
            + "triangle g h i;triangle h i j;triangle i h g;triangle g j i;"
            + "fault f from 50 0 to 50 10 throws 30;";

    public static void main(String[] args) {
        areas();
        points();
        tops();
        thicknesses();
        volumes();
        tilts();
        deepest();
        sharedAndGaps();
        draws();
        Desk.end();
    }

    private static void areas() {
        BoreDesk desk = Desk.with(GROUND);
        Desk.fraction(desk, "area", desk.area(0), 24, 1);
        Desk.fraction(desk, "area, turned", desk.area(2), 24, 1);
        Desk.fraction(desk, "area across a fault", desk.area(1), 526, 1);
        Desk.due(desk, "triangle -1", desk.area(-1), false, 1);
        Desk.due(desk, "triangle 4", desk.area(4), false, 1);
        Desk.due(desk, "across 0", desk.across(0), 0, 0);
        Desk.due(desk, "across 1", desk.across(1), 1, 0);
        Desk.due(desk, "across 4", desk.across(4), -1, 1);
        Desk.due(desk, "across -1", desk.across(-1), -1, 1);
        Desk.due(desk, "throwing nothing", desk.throwing(0, 0), true, 0);
        Desk.due(desk, "across all the same", desk.across(1), 1, 0);
        BoreDesk half = Desk.with("hole a at 0 0;hole b at 1 0;hole c at 0 1;triangle a c b;");
        Desk.fraction(half, "half", half.area(0), 1, 2);
        // A corner on the line is on its left.
        BoreDesk touch = Desk.with("hole a at 0 0;hole b at 5 0;hole c at 0 5;triangle a b c;"
                + "fault f from 5 0 to 5 9 throws 1;fault g from 0 9 to 0 0 throws 1;");
        Desk.due("one on the line, the others on its left", touch.side(0, 1), 0);
        Desk.due("two on the line, one on its left", touch.side(1, 1), 0);
        Desk.due("not across", touch.across(0), 0);
    }

    private static void points() {
        BoreDesk desk = Desk.with(GROUND);
        int[][] inside = {{0, 0}, {3, 4}, {6, 0}, {0, 8}, {1, 1}, {0, 5}, {3, 0}};
        for (int[] p : inside) {
            Desk.due(desk, "in " + p[0] + " " + p[1], desk.triangleAt(p[0], p[1]), 0, 0);
        }
        Desk.due(desk, "outside", desk.triangleAt(4, 4), -1, 6);
        Desk.due(desk, "in one across", desk.triangleAt(50, 25), -1, 6);
        Desk.due(desk, "x -1", desk.triangleAt(-1, 0), -1, 1);
        Desk.due(desk, "y -1", desk.triangleAt(0, -1), -1, 1);
        Desk.due(desk, "x 1000", desk.triangleAt(1000, 0), -1, 1);
        Desk.due(desk, "y 1000", desk.triangleAt(0, 1000), -1, 1);
        Desk.due(desk, "the farthest", desk.triangleAt(999, 999), -1, 6);
        BoreDesk two = Desk.with("hole a at 0 0;hole b at 9 0;hole c at 0 9;hole d at 9 9;"
                + "triangle b d c;triangle a c b;");
        Desk.due(two, "on an edge of both", two.triangleAt(4, 5), 0, 0);
        Desk.due(two, "in the second", two.triangleAt(4, 4), 1, 0);
        Desk.due(two, "in the first", two.triangleAt(5, 5), 0, 0);
    }

    private static void tops() {
        BoreDesk desk = Desk.with(GROUND);
        Desk.due("beds", desk.beds(), 2);
        Desk.fraction(desk, "top of a", desk.topAt(0, 1, 1), 0, 1);
        Desk.due(desk, "a hole has it not", desk.topAt(1, 1, 1), false, 7);
        Desk.due(desk, "no triangle", desk.topAt(1, 9, 9), false, 6);
        Desk.due(desk, "no bed", desk.topAt(2, 1, 1), false, 1);
        Desk.due(desk, "bed -1", desk.topAt(-1, 1, 1), false, 1);
        Desk.due(desk, "x 1000", desk.topAt(0, 1000, 1), false, 1);
        Desk.due(desk, "y -1", desk.topAt(0, 1, -1), false, 1);
        desk.lay(2, 1, 50);
        desk.lay(2, 0, 1);
        // Now b is in hole i at depth 1; with a above it, that is a bed of a.
        Desk.due("b is there", desk.layer(2, 1, 0), 1);
        int b = desk.bedOf(2, 1);
        Desk.due("one with that in hole g", desk.bedOf(0, 1), b);
        Desk.fraction(desk, "at g", desk.topAt(b, 0, 0), 4, 1);
        Desk.fraction(desk, "at h", desk.topAt(b, 6, 0), 3, 1);
        Desk.fraction(desk, "at i", desk.topAt(b, 0, 8), 1, 1);
        Desk.fraction(desk, "within", desk.topAt(b, 1, 1), 83, 24);
        Desk.fraction(desk, "on an edge", desk.topAt(b, 3, 0), 7, 2);
        Desk.fraction(desk, "on an edge, too", desk.topAt(b, 3, 4), 2, 1);
        Desk.fraction(desk, "a wedge", desk.topAt(b, 2, 3), 61, 24);
    }

    private static void thicknesses() {
        BoreDesk desk = Desk.with(GROUND);
        Desk.fraction(desk, "a", desk.thickAt(0, 0, 8), 5, 1);
        Desk.fraction(desk, "a on an edge", desk.thickAt(0, 0, 4), 9, 2);
        Desk.fraction(desk, "b runs out", desk.thickAt(1, 0, 4), 9, 2);
        Desk.fraction(desk, "b has run out", desk.thickAt(1, 0, 8), 0, 1);
        Desk.fraction(desk, "b within", desk.thickAt(1, 1, 1), 181, 24);
        Desk.due(desk, "no triangle", desk.thickAt(0, 9, 9), false, 6);
        Desk.due(desk, "no bed", desk.thickAt(2, 0, 0), false, 1);
        Desk.due(desk, "no point", desk.thickAt(0, 0, 1000), false, 1);
        Desk.due("unchanged", desk.top(), 181);
    }

    private static void volumes() {
        BoreDesk desk = Desk.with(GROUND);
        // 24 by 12/3, and by 16/3.
        Desk.fraction(desk, "a", desk.volume(0, 0), 96, 1);
        Desk.fraction(desk, "b", desk.volume(1, 0), 128, 1);
        Desk.fraction(desk, "a, turned", desk.volume(0, 2), 96, 1);
        Desk.due(desk, "across", desk.volume(0, 1), false, 7);
        Desk.due(desk, "no bed", desk.volume(2, 1), false, 1);
        Desk.due(desk, "no triangle", desk.volume(0, 4), false, 1);
        Desk.due(desk, "triangle -1", desk.volume(0, -1), false, 1);
        Desk.fraction(desk, "a, each triangle", desk.volumeOf(0), 192, 1);
        Desk.fraction(desk, "b, each triangle", desk.volumeOf(1), 256, 1);
        Desk.due(desk, "no bed", desk.volumeOf(2), false, 1);
        Desk.due(desk, "bed -1", desk.volumeOf(-1), false, 1);
        BoreDesk sixth = Desk.with("rock a;hole a at 0 0;".replace("hole a", "hole x")
                + "hole y at 1 0 bed a thick 1;hole z at 0 1;triangle x y z;");
        Desk.fraction(sixth, "a sixth", sixth.volume(0, 0), 1, 6);
        Desk.fraction(sixth, "a sixth in all", sixth.volumeOf(0), 1, 6);
        BoreDesk none = Desk.with("rock a;hole y at 1 0 bed a thick 1;");
        Desk.fraction(none, "no triangles", none.volumeOf(0), 0, 1);
    }

    private static void tilts() {
        BoreDesk desk = Desk.with("rock a;rock b;unlike a b costs 99;"
                + "hole g at 10 10 bed a thick 4 bed b thick 9;"
                + "hole h at 17 13 bed a thick 3 bed b thick 7;"
                + "hole i at 12 18 bed a thick 9 bed b thick 7;"
                + "hole j at 900 10 bed a thick 9;hole k at 12 19 bed a thick 9;"
                + "triangle g h i;triangle h g i;triangle g h j;triangle g i k;"
                + "fault f from 500 0 to 500 1 throws 9;");
        int b = desk.bedOf(0, 1);
        // 7x + 3y = -1, 2x + 8y = 5: x = -23/50, y = 37/50.
        Desk.fraction(desk, "along x", desk.tilt(b, 0, 0), -23, 50);
        Desk.fraction(desk, "along y", desk.tilt(b, 0, 1), 37, 50);
        Desk.fraction(desk, "along x, turned", desk.tilt(b, 1, 0), -23, 50);
        Desk.fraction(desk, "along y, turned", desk.tilt(b, 1, 1), 37, 50);
        Desk.fraction(desk, "level", desk.tilt(0, 0, 0), 0, 1);
        Desk.due(desk, "across", desk.tilt(0, 2, 0), false, 7);
        Desk.due(desk, "a hole has it not", desk.tilt(b, 3, 0), false, 7);
        Desk.due(desk, "what 2", desk.tilt(b, 0, 2), false, 1);
        Desk.due(desk, "what -1", desk.tilt(b, 0, -1), false, 1);
        Desk.due(desk, "no bed", desk.tilt(99, 0, 0), false, 1);
        Desk.due(desk, "no triangle", desk.tilt(b, 4, 0), false, 1);
    }

    private static void deepest() {
        BoreDesk desk = Desk.with(GROUND);
        Desk.due(desk, "a, thrown", desk.deepest(0), 3, 0);
        Desk.due(desk, "b, thrown", desk.deepest(1), 3, 0);
        desk.throwing(0, 0);
        Desk.due(desk, "a, of several the first", desk.deepest(0), 0, 0);
        Desk.due(desk, "b", desk.deepest(1), 0, 0);
        desk.throwing(0, 3);
        Desk.due(desk, "b by its depth", desk.deepest(1), 3, 0);
        Desk.due(desk, "no bed", desk.deepest(2), -1, 1);
        Desk.due(desk, "bed -1", desk.deepest(-1), -1, 1);
    }

    private static void sharedAndGaps() {
        BoreDesk desk = Desk.with("rock a;rock b;rock c;rock d;"
                + "unlike a b costs 99;unlike a c costs 99;unlike a d costs 99;"
                + "unlike b c costs 99;unlike b d costs 99;unlike c d costs 99;"
                + "hole g at 0 0 bed a thick 2 bed b thick 2 bed c thick 2 bed d thick 2;"
                + "hole h at 1 0 bed a thick 2 bed c thick 2;"
                + "hole i at 0 1 bed a thick 2 bed d thick 2;"
                + "hole j at 0 2;");
        Desk.due(desk, "shared g h", desk.shared(0, 1), 2, 0);
        Desk.due("beds", desk.beds(), 4);
        desk.wear(1, 2);
        Desk.due(desk, "g and h share c alone", desk.shared(0, 1), 1, 0);
        desk.lay(1, 0, 2);
        Desk.due(desk, "a gap in h again", desk.gaps(1), 1, 0);
        Desk.due(desk, "shared h i", desk.shared(1, 2), 1, 0);
        Desk.due(desk, "shared i h", desk.shared(2, 1), 1, 0);
        Desk.due(desk, "shared with none", desk.shared(0, 3), 0, 0);
        Desk.due(desk, "one and itself", desk.shared(1, 1), -1, 1);
        Desk.due(desk, "no hole", desk.shared(0, 4), -1, 1);
        Desk.due(desk, "hole -1", desk.shared(-1, 0), -1, 1);
        Desk.due(desk, "no gaps", desk.gaps(0), 0, 0);
        Desk.due(desk, "one gap: d is above none", desk.gaps(1), 1, 0);
        Desk.due(desk, "two gaps", desk.gaps(2), 2, 0);
        Desk.due(desk, "nothing to be between", desk.gaps(3), 0, 0);
        Desk.due(desk, "no hole 4", desk.gaps(4), -1, 1);
        Desk.due(desk, "hole -1", desk.gaps(-1), -1, 1);
    }

    private static void draws() {
        BoreDesk desk = Desk.with(GROUND);
        desk.tray(0, 0, 10);
        desk.tray(1, 1, 60);
        desk.tray(2, 2, 0);
        for (int i = 0; i < 60; i++) {
            desk.write(1, i, 77);
        }
        Desk.due(desk, "as far as there are places", desk.draws(0, 0), 10, 0);
        for (int i = 0; i < 10; i++) {
            Desk.due("unit " + i, desk.read(0, i), i < 4 ? 0 : 1);
        }
        Desk.due(desk, "as far as there are units", desk.draws(2, 1), 5, 0);
        Desk.due("the last unit", desk.read(1, 4), 0);
        Desk.due("what is behind it stays", desk.read(1, 5), 77);
        Desk.due(desk, "no places", desk.draws(0, 2), 0, 0);
        Desk.due(desk, "missing", desk.draws(0, 3), -1, 2);
        Desk.due(desk, "tray 4", desk.draws(0, 4), -1, 1);
        Desk.due(desk, "hole 4", desk.draws(4, 3), -1, 1);
        desk.wear(2, 50);
        Desk.due(desk, "no units", desk.draws(2, 1), 0, 0);
        desk.draws(0, 0);
        Desk.due(desk, "it agrees everywhere", desk.agrees(0, 10, 0), 10, 0);
    }
}
