/** Promises 20 to 31: MATCHES, the TREE, BEDS, which is ABOVE which, their ORDER. */
public final class MatchesTest {
    private static final String ROCKS = "rock a;rock b skip 2;rock c;unlike a b costs 3;";

    public static void main(String[] args) {
        costs();
        ties();
        matchStays();
        treeOfNearest();
        bedsAlongTheTree();
        bedsWithinHoles();
        order();
        wide();
        noBeds();
        twelveLayers();
        asSoonAsItChanges();
        Desk.end();
    }

    private static void costs() {
        BoreDesk desk = Desk.with(ROCKS + "hole g at 0 0 bed a thick 4 bed b thick 2 bed c thick 6;"
                + "hole h at 9 0 bed a thick 3 bed c thick 6;hole i at 0 99;hole j at 3 3 bed c thick 50;");
        // a with a: 1, b left out: 2 and 2, c with c: 0.
        Desk.due(desk, "match", desk.match(0, 1), 5, 0);
        Desk.due(desk, "pairs", desk.pairs(), 2, 0);
        Desk.due(desk, "first", desk.pairOf(0), 0, 0);
        Desk.due(desk, "left out", desk.pairOf(1), -1, 6);
        Desk.due(desk, "third", desk.pairOf(2), 1, 0);
        Desk.due(desk, "no layer 3", desk.pairOf(3), -1, 6);
        Desk.due(desk, "no layer -1", desk.pairOf(-1), -1, 6);
        Desk.due(desk, "the other way", desk.match(1, 0), 5, 0);
        Desk.due(desk, "second with third", desk.pairOf(1), 2, 0);
        // All left out: 5 and 4, 2 and 2, 5 and 6.
        Desk.due(desk, "with none", desk.match(0, 2), 24, 0);
        Desk.due(desk, "no pairs", desk.pairs(), 0, 0);
        Desk.due(desk, "none is paired", desk.pairOf(0), -1, 6);
        Desk.due(desk, "none with all", desk.match(2, 0), 24, 0);
        Desk.due(desk, "no layer 0", desk.pairOf(0), -1, 6);
        // c with c: 44, a left out: 9, b left out: 4.
        Desk.due(desk, "thicker", desk.match(0, 3), 57, 0);
        Desk.due(desk, "c with c", desk.pairOf(2), 0, 0);
        Desk.due(desk, "one and itself", desk.match(1, 1), -1, 1);
        Desk.due(desk, "hole -1", desk.match(-1, 1), -1, 1);
        Desk.due(desk, "hole 4", desk.match(0, 4), -1, 1);
        Desk.due(desk, "the latest with status 0 stays", desk.pairOf(2), 0, 0);
    }

    private static void ties() {
        // A pair costs 9, and so do the two left out: 2 and 3, 2 and 2.
        BoreDesk pair = Desk.with("rock a skip 2;rock b skip 3;hole g at 0 0 bed a thick 2;hole h at 1 1 bed b thick 2;");
        Desk.due("a tie", pair.match(0, 1), 9);
        Desk.due("a pair ahead of leaving out", pair.pairOf(0), 0);
        BoreDesk out = Desk.with("rock a skip 1;rock b skip 3;hole g at 0 0 bed a thick 2;hole h at 1 1 bed b thick 2;");
        Desk.due("cheaper left out", out.match(0, 1), 8);
        Desk.due("left out", out.pairs(), 0);
        BoreDesk twins = Desk.with(ROCKS + "hole g at 0 0 bed a thick 3 bed a thick 3;hole h at 1 1 bed a thick 3;");
        Desk.due("two to one", twins.match(0, 1), 8);
        Desk.due("the pair comes first", twins.pairOf(0), 0);
        Desk.due(twins, "the second is left out", twins.pairOf(1), -1, 6);
        Desk.due("one to two", twins.match(1, 0), 8);
        Desk.due("the pair comes first, too", twins.pairOf(0), 0);
        // a b against b a: one couple of alike ones is paired, the pair of a is come to by leaving out
        // that of the second, the pair of b by leaving out that of the first, which goes ahead.
        BoreDesk crossed = Desk.with("rock a;rock b;unlike a b costs 99;"
                + "hole g at 0 0 bed a thick 3 bed b thick 3;hole h at 1 1 bed b thick 3 bed a thick 3;");
        Desk.due("crossed", crossed.match(0, 1), 16);
        Desk.due(crossed, "that of the first is left out", crossed.pairOf(0), -1, 6);
        Desk.due(crossed, "and the second pairs", crossed.pairOf(1), 0, 0);
        Desk.due("one pair", crossed.pairs(), 1);
    }

    private static void matchStays() {
        BoreDesk desk = new BoreDesk();
        Desk.due(desk, "no match yet", desk.pairs(), -1, 6);
        Desk.due(desk, "no match yet, pairOf", desk.pairOf(0), -1, 6);
        Desk.field(desk, ROCKS + "hole g at 0 0 bed a thick 3;hole h at 1 1 bed b thick 3 bed a thick 3;");
        desk.beds();
        desk.treeCost();
        Desk.due(desk, "beds are no match", desk.pairs(), -1, 6);
        desk.match(0, 1);
        desk.wear(1, 50);
        desk.beds();
        Desk.due(desk, "of the latest match, whatever became of the holes", desk.pairOf(0), 1, 0);
        Desk.field(desk, "");
        Desk.due(desk, "whatever the field is", desk.pairs(), 1, 0);
    }

    private static void treeOfNearest() {
        BoreDesk desk = Desk.with("rock a;hole g at 0 0 bed a thick 1;hole h at 10 0 bed a thick 3;"
                + "hole i at 10 10 bed a thick 7;hole j at 0 10;hole k at 500 500 bed a thick 9;");
        int[][] couples = {{0, 1, 100}, {0, 3, 100}, {1, 2, 100}, {2, 4, 480200}};
        for (int k = 0; k < couples.length; k++) {
            for (int what = 0; what < 3; what++) {
                Desk.due(desk, "couple " + k + " " + what, desk.tree(k, what), couples[k][what], 0);
            }
        }
        Desk.due(desk, "k 4", desk.tree(4, 0), -1, 6);
        Desk.due(desk, "k -1", desk.tree(-1, 0), -1, 6);
        Desk.due(desk, "what 3", desk.tree(0, 3), -1, 1);
        Desk.due(desk, "what -1", desk.tree(0, -1), -1, 1);
        Desk.due(desk, "what ahead of k", desk.tree(9, 3), -1, 1);
        // 2, and 5 and 1, and 4, and 2.
        Desk.due(desk, "cost", desk.treeCost(), 14, 0);
        BoreDesk far = Desk.with("hole g at 0 0;hole h at 5 0;hole i at 6 0;");
        Desk.due("the nearest first", far.tree(0, 0), 1);
        Desk.due("the nearest first, its second", far.tree(0, 1), 2);
        Desk.due("then the next", far.tree(1, 0), 0);
        Desk.due("then the next, its second", far.tree(1, 1), 1);
        BoreDesk one = Desk.with("hole g at 0 0;");
        Desk.due(one, "no couples", one.tree(0, 0), -1, 6);
        Desk.due(one, "no cost", one.treeCost(), 0, 0);
    }

    private static final String FOUR = "rock a skip 0;rock b skip 2;rock c;"
            + "hole g at 0 0 bed a thick 4 bed b thick 2 bed c thick 6;"
            + "hole h at 6 0 bed a thick 3 bed c thick 6;"
            + "hole i at 0 8 bed b thick 2 bed c thick 5;"
            + "hole j at 90 90;"
            + "fault f from 3 0 to 3 9 throws 40;";

    private static void bedsAlongTheTree() {
        BoreDesk desk = Desk.with(FOUR);
        Desk.due(desk, "beds", desk.beds(), 3, 0);
        int[][] beds = {{0, 1, 2}, {0, 2}, {1, 2}};
        for (int hole = 0; hole < 3; hole++) {
            for (int layer = 0; layer < beds[hole].length; layer++) {
                Desk.due(desk, "bed of " + hole + " " + layer, desk.bedOf(hole, layer), beds[hole][layer], 0);
            }
        }
        Desk.due(desk, "no layer", desk.bedOf(1, 2), -1, 1);
        Desk.due(desk, "no layer -1", desk.bedOf(1, -1), -1, 1);
        Desk.due(desk, "no layers", desk.bedOf(3, 0), -1, 1);
        Desk.due(desk, "no hole", desk.bedOf(4, 0), -1, 1);
        Desk.due(desk, "holes of 0", desk.holesOf(0), 3, 0);
        Desk.due(desk, "holes of 1", desk.holesOf(1), 5, 0);
        Desk.due(desk, "holes of 2", desk.holesOf(2), 7, 0);
        Desk.due(desk, "holes of 3", desk.holesOf(3), -1, 1);
        Desk.due(desk, "holes of -1", desk.holesOf(-1), -1, 1);
        Desk.due(desk, "depth", desk.bed(2, 0, 0), 6, 0);
        Desk.due(desk, "depth, thrown", desk.bed(2, 1, 0), 43, 0);
        Desk.due(desk, "thickness", desk.bed(2, 2, 1), 5, 0);
        Desk.due(desk, "layer", desk.bed(2, 2, 2), 1, 0);
        Desk.due(desk, "has it not", desk.bed(1, 1, 0), -1, 6);
        Desk.due(desk, "what 3", desk.bed(1, 1, 3), -1, 1);
        Desk.due(desk, "what -1", desk.bed(0, 0, -1), -1, 1);
        Desk.due(desk, "hole 4", desk.bed(0, 4, 0), -1, 1);
        Desk.due(desk, "bed 3", desk.bed(3, 0, 0), -1, 1);
        Desk.due(desk, "above", desk.above(0, 1), 1, 0);
        Desk.due(desk, "below", desk.above(1, 0), 0, 0);
        Desk.due(desk, "itself", desk.above(1, 1), 0, 0);
        Desk.due(desk, "no bed a", desk.above(3, 0), -1, 1);
        Desk.due(desk, "no bed b", desk.above(0, -1), -1, 1);
        // As the layers change, so do the beds.
        Desk.due("wear", desk.wear(0, 4), 4);
        Desk.due("beds behind it", desk.beds(), 3);
        Desk.due("b is the first now", desk.bedOf(0, 0), 0);
        Desk.due("b in hole i, too", desk.bedOf(2, 0), 0);
        Desk.due("c the second", desk.bedOf(1, 1), 1);
        Desk.due("a the last", desk.bedOf(1, 0), 2);
    }

    private static void bedsWithinHoles() {
        // No layer is like another one, and each is cheaper left out.
        BoreDesk desk = Desk.with("rock a skip 0;rock b skip 0;unlike a b costs 99;"
                + "hole g at 0 0 bed a thick 1;hole h at 1 0 bed b thick 1;hole i at 2 0 bed a thick 1;");
        Desk.due("beds apart", desk.beds(), 3);
        Desk.due("numbered by holes", desk.bedOf(2, 0), 2);
        Desk.due("apart: none is above", desk.above(0, 1), 0);
        Desk.due("joined along the tree alone", desk.holesOf(0), 1);
    }

    private static void order() {
        BoreDesk desk = Desk.with(FOUR);
        desk.wear(0, 4);
        // b 0, c 1, a 2: a is above c in hole h.
        int[] due = {0, 2, 1};
        for (int k = 0; k < 3; k++) {
            Desk.due(desk, "order " + k, desk.order(k), due[k], 0);
        }
        Desk.due(desk, "k 3", desk.order(3), -1, 6);
        Desk.due(desk, "k -1", desk.order(-1), -1, 1);
        desk.wear(1, 3);
        Desk.due(desk, "order again", desk.order(1), 1, 0);
        Desk.due(desk, "not so many", desk.order(2), -1, 6);
    }

    private static void wide() {
        BoreDesk desk = Desk.with(FOUR);
        Desk.due(desk, "widest", desk.widest(), 2, 0);
        desk.wear(2, 50);
        Desk.due(desk, "of several the first", desk.widest(), 0, 0);
    }

    private static void twelveLayers() {
        // All is left out: none may pair with what is so unlike.
        BoreDesk desk = Desk.with("rock a skip 0;rock b skip 0;rock c skip 0;rock d skip 0;unlike a c costs 99;unlike a d costs 99;"
                + "unlike b c costs 99;unlike b d costs 99;hole g at 0 0;hole h at 1 0;hole i at 0 2;");
        for (int i = 0; i < 12; i++) {
            desk.lay(0, i % 2, 1);
            desk.lay(1, 2 + i % 2, 2);
            desk.lay(2, i % 2, 1);
        }
        Desk.due("all left out", desk.match(0, 1), 36);
        Desk.due("no pairs", desk.pairs(), 0);
        Desk.due(desk, "the last is left out", desk.pairOf(11), -1, 6);
        Desk.due("all paired", desk.match(0, 2), 0);
        Desk.due("twelve pairs", desk.pairs(), 12);
        Desk.due("the last with the last", desk.pairOf(11), 11);
        Desk.due("of both ways", desk.beds(), 24);
        Desk.due("36 and 0", desk.treeCost(), 36);
        Desk.due("the last bed", desk.bedOf(1, 11), 23);
        Desk.due("shared", desk.shared(0, 2), 12);
    }

    /** Whichever call comes first behind a change: it answers as it does on a desk that was asked nothing before. */
    private static void asSoonAsItChanges() {
        for (int which = 0; which < 18; which++) {
            BoreDesk asked = new BoreDesk();
            query(asked, which);
            for (int changes = 1; changes <= 9; changes++) {
                change(asked, changes);
                BoreDesk fresh = new BoreDesk();
                for (int i = 1; i <= changes; i++) {
                    change(fresh, i);
                }
                long due = query(fresh, which);
                Desk.due(asked, "query " + which + " behind change " + changes, query(asked, which), due, fresh.status());
            }
        }
    }

    private static void change(BoreDesk desk, int which) {
        switch (which) {
            case 1:
                Desk.field(desk, FOUR + "triangle g h i;triangle g h j;");
                Desk.years(desk, "lay j a 9;lay j b 2;lay h b 2;wear i 2;move f 3;");
                break;
            case 2: desk.mark(); desk.live(0); break;
            case 3: desk.wear(3, 99); break;
            case 4: desk.mark(); desk.lay(3, 2, 8); break;
            case 5: desk.throwing(0, 0); break;
            case 6: desk.back(); break;
            case 7: desk.back(); break;
            case 8: desk.lay(1, 1, 1); break;
            default: Desk.field(desk, "rock a;hole g at 5 5 bed a thick 3;hole h at 7 9 bed a thick 4;hole i at 7 3;triangle g h i;"); break;
        }
    }

    /** An answer, or the FRACTION, as one number. */
    private static long query(BoreDesk desk, int which) {
        switch (which) {
            case 0: return desk.tree(0, 1);
            case 1: return desk.treeCost();
            case 2: return desk.beds();
            case 3: return desk.bedOf(0, 0);
            case 4: return desk.bedOf(1, 1);
            case 5: return desk.tree(1, 2);
            case 6: return desk.order(1);
            case 7: return desk.widest();
            case 8: return desk.holesOf(0);
            case 9: return desk.shared(0, 1);
            case 10: return desk.gaps(1);
            case 11: return desk.bed(0, 1, 0);
            case 12: return desk.above(0, 1);
            case 13: return desk.deepest(0);
            case 14: return desk.volumeOf(0) ? desk.top() * 100 + desk.bottom() : -1;
            case 15: return desk.topAt(0, 7, 5) ? desk.top() * 100 + desk.bottom() : -1;
            case 16: return desk.thickAt(0, 5, 5) ? desk.top() * 100 + desk.bottom() : -1;
            default: return desk.tilt(0, 0, 0) ? desk.top() * 100 + desk.bottom() : -1;
        }
    }

    private static void noBeds() {
        BoreDesk desk = Desk.with("hole g at 0 0;hole h at 1 1;");
        Desk.due(desk, "beds", desk.beds(), 0, 0);
        Desk.due(desk, "widest", desk.widest(), -1, 6);
        Desk.due(desk, "order", desk.order(0), -1, 6);
        Desk.due(desk, "bed", desk.bed(0, 0, 0), -1, 1);
        Desk.due(desk, "tree", desk.tree(0, 2), 2, 0);
    }
}
