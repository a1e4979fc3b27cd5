/** Bounds that the document names for what a FIELD tells, MATCHES, the TREE, BEDS: its second part, promises 13 to 31. */
public final class BoundsOfBedsTest {
    private static final String ROCKS = "rock a;rock b;rock c;rock d;";
    private static final int LEAST = Integer.MIN_VALUE;
    private static final int MOST = Integer.MAX_VALUE;

    public static void main(String[] args) {
        told();
        skip();
        unlike();
        hole();
        holeOfNoLayers();
        layer();
        depths();
        twelveLayers();
        layerAt();
        layerAtRefused();
        side();
        sideRefused();
        match();
        matchOfNothing();
        matchCosts();
        matchNotCrossed();
        matchOfTwelve();
        matchTies();
        pairOf();
        pairOfNone();
        pairs();
        treeNumbers();
        treeOfFew();
        treeTies();
        treeJoinsWhatIsNotJoined();
        treeFarthest();
        treeCost();
        bedsOfNone();
        bedsMost();
        bedsNumbered();
        bedsAlongTheTree();
        bedOf();
        holesOf();
        bed();
        above();
        aboveInOneOfTheHoles();
        orderNumbers();
        orderOfLeast();
        orderThereIs();
        widest();
        Desk.end();
    }

    // Promise 13: "How many ROCKS (what 0), HOLES (1), TRIANGLES (2), FAULTS (3) (1)."
    private static void told() {
        BoreDesk desk = Picture.full();
        Desk.due(desk, "rocks", desk.told(0), 3, 0);
        Desk.due(desk, "holes", desk.told(1), 4, 0);
        Desk.due(desk, "triangles", desk.told(2), 2, 0);
        Desk.due(desk, "faults", desk.told(3), 1, 0);
        for (int what : new int[] {-1, 4, LEAST, MOST}) {
            Picture.refused("told " + what, full -> full.told(what), 1);
        }
    }

    // Promise 14: "What it costs to SKIP a ROCK (1)."
    private static void skip() {
        BoreDesk desk = Picture.full();
        Desk.due(desk, "the first", desk.skip(0), 3, 0);
        Desk.due(desk, "the last", desk.skip(2), 0, 0);
        for (int rock : new int[] {-1, 3, 8, LEAST, MOST}) {
            Picture.refused("skip " + rock, full -> full.skip(rock), 1);
        }
    }

    // Promise 15: "What a couple of ROCKS costs (0 if alike) (1)."
    private static void unlike() {
        BoreDesk desk = Picture.full();
        for (int rock = 0; rock < 3; rock++) {
            Desk.due(desk, "alike", desk.unlike(rock, rock), 0, 0);
        }
        Desk.due(desk, "told", desk.unlike(1, 0), 4, 0);
        Desk.due(desk, "not told", desk.unlike(0, 2), 9, 0);
        for (int rock : new int[] {-1, 3, 8, LEAST, MOST}) {
            Picture.refused("unlike " + rock + " 0", full -> full.unlike(rock, 0), 1);
            Picture.refused("unlike 0 " + rock, full -> full.unlike(0, rock), 1);
            Picture.refused("unlike of none and itself", full -> full.unlike(rock, rock), 1);
        }
    }

    // Promise 16: "Of a HOLE, what 0: x, 1: y, 2: how many LAYERS, 3: all together, 4: what FAULTS throw there (1)."
    private static void hole() {
        BoreDesk desk = Desk.with("rock r;hole a at 3 4;hole b at 999 5 bed r thick 8 bed r thick 99;"
                + "fault f from 500 0 to 500 9 throws 0;fault g from 600 9 to 600 0 throws 7;");
        int[] due = {999, 5, 2, 107, 0};
        for (int what = 0; what <= 4; what++) {
            Desk.due(desk, "what " + what, desk.hole(1, what), due[what], 0);
        }
        Desk.due(desk, "thrown there", desk.hole(0, 4), 7, 0);
        for (int hole : new int[] {-1, 4, 6, LEAST, MOST}) {
            Picture.refused("hole " + hole, full -> full.hole(hole, 0), 1);
        }
        for (int what : new int[] {-1, 5, LEAST, MOST}) {
            Picture.refused("hole's what " + what, full -> full.hole(0, what), 1);
        }
    }

    // Promise 16: "2: how many LAYERS, 3: all together" - none at all
    private static void holeOfNoLayers() {
        BoreDesk desk = Desk.with("rock r;hole a at 3 4;");
        Desk.due(desk, "no layers", desk.hole(0, 2), 0, 0);
        Desk.due(desk, "nothing together", desk.hole(0, 3), 0, 0);
        Desk.due(desk, "nothing thrown", desk.hole(0, 4), 0, 0);
        Desk.due(desk, "no layer 0", desk.layer(0, 0, 0), -1, 1);
    }

    // Promise 17: "Of a LAYER, what 0: the ROCK, 1: how THICK, 2: DEPTH of its top (1)."
    private static void layer() {
        BoreDesk desk = Desk.with(Picture.FIELD);
        Desk.due(desk, "rock of the last", desk.layer(0, 2, 0), 2, 0);
        Desk.due(desk, "thickness of the last", desk.layer(0, 2, 1), 6, 0);
        Desk.due(desk, "depth of the last", desk.layer(0, 2, 2), 13, 0);
        Desk.due(desk, "depth of the first", desk.layer(0, 0, 2), 7, 0);
        for (int number : new int[] {-1, 4, 12, LEAST, MOST}) {
            Picture.refused("layer " + number, full -> full.layer(1, number, 0), 1);
            Picture.refused("layer of hole " + number, full -> full.layer(number, 0, 0), 1);
        }
        Picture.refused("one behind the last layer", full -> full.layer(3, 1, 0), 1);
        for (int what : new int[] {-1, 3, LEAST, MOST}) {
            Picture.refused("layer's what " + what, full -> full.layer(0, 0, what), 1);
        }
    }

    // Part 2: "DEPTH of a LAYER's top in a HOLE: all THICK ones above it together, and what all FAULTS throw on whose right the HOLE is."
    private static void depths() {
        BoreDesk desk = Desk.with("rock r;hole a at 1 1 bed r thick 3 bed r thick 4 bed r thick 5;"
                + "hole b at 8 1 bed r thick 3 bed r thick 4;hole c at 8 8 bed r thick 9;"
                + "fault f from 5 0 to 5 9 throws 100;fault g from 9 5 to 0 5 throws 999;");
        Desk.due("on no right", desk.layer(0, 0, 2), 0);
        Desk.due("on no right, the second", desk.layer(0, 1, 2), 3);
        Desk.due("on no right, the third", desk.layer(0, 2, 2), 7);
        Desk.due("on the right of one", desk.layer(1, 0, 2), 100);
        Desk.due("on the right of one, the second", desk.layer(1, 1, 2), 103);
        Desk.due("on the right of both", desk.layer(2, 0, 2), 1099);
    }

    // Part 2: "LAYERS, at most 12 in a HOLE later on, are numbered from the top."
    private static void twelveLayers() {
        BoreDesk desk = Desk.with(ROCKS + "hole h at 0 0 bed a thick 1 bed b thick 2 bed a thick 3 bed b thick 4"
                + " bed a thick 5 bed b thick 6 bed a thick 7 bed b thick 8;");
        for (int more = 1; more <= 4; more++) {
            Desk.due(desk, "one more", desk.lay(0, more % 2 == 1 ? 2 : 3, 20 + more), 8 + more, 0);
        }
        Desk.due(desk, "a 13th", desk.lay(0, 0, 1), -1, 4);
        Desk.due("twelve", desk.hole(0, 2), 12);
        Desk.due(desk, "the top is the one laid latest", desk.layer(0, 0, 1), 24, 0);
        Desk.due(desk, "layer 11", desk.layer(0, 11, 1), 8, 0);
        Desk.due(desk, "its depth", desk.layer(0, 11, 2), 90 + 28, 0);
        Desk.due(desk, "layer 12", desk.layer(0, 12, 1), -1, 1);
    }

    // Promise 18: "Which LAYER of a HOLE has a DEPTH (its top's, and more, less than its foot's)"
    private static void layerAt() {
        BoreDesk desk = Desk.with("rock r;hole a at 9 0 bed r thick 1 bed r thick 99;hole b at 0 0 bed r thick 2;hole c at 1 0;"
                + "fault f from 5 0 to 5 9 throws 50;");
        Desk.due(desk, "one above the top", desk.layerAt(0, 49), -1, 6);
        Desk.due(desk, "the top", desk.layerAt(0, 50), 0, 0);
        Desk.due(desk, "the second's top", desk.layerAt(0, 51), 1, 0);
        Desk.due(desk, "the last unit", desk.layerAt(0, 149), 1, 0);
        Desk.due(desk, "the foot", desk.layerAt(0, 150), -1, 6);
        Desk.due(desk, "depth 0", desk.layerAt(1, 0), 0, 0);
        Desk.due(desk, "depth 1", desk.layerAt(1, 1), 0, 0);
        Desk.due(desk, "depth 2", desk.layerAt(1, 2), -1, 6);
        Desk.due(desk, "no layers", desk.layerAt(2, 0), -1, 6);
    }

    // Promise 18: "(1: below 0; 6: none)"
    private static void layerAtRefused() {
        Picture.refused("depth -1", desk -> desk.layerAt(0, -1), 1);
        Picture.refused("the least depth", desk -> desk.layerAt(0, LEAST), 1);
        Picture.refused("above the top", desk -> desk.layerAt(0, 0), 6);
        Picture.refused("the greatest depth", desk -> desk.layerAt(0, MOST), 6);
        Picture.refused("hole -1", desk -> desk.layerAt(-1, 0), 1);
        Picture.refused("hole 4", desk -> desk.layerAt(4, 0), 1);
        Picture.refused("1 ahead of 6", desk -> desk.layerAt(4, MOST), 1);
    }

    // Promise 19: "1 if a HOLE is on the right of a FAULT, else 0 (1)."
    // Terms: "looking from the first to the second, x to the right, y up"
    // Terms: "a point on it is on its left."
    private static void side() {
        BoreDesk desk = Desk.with("hole a at 5 5;hole b at 6 5;hole c at 4 5;hole d at 5 999;hole e at 999 999;hole f at 998 999;"
                + "fault x from 5 1 to 5 2 throws 1;fault y from 7 7 to 2 2 throws 1;");
        int[] x = {0, 1, 0, 0, 1, 1};
        int[] y = {0, 0, 1, 1, 0, 1};
        for (int hole = 0; hole < 6; hole++) {
            Desk.due(desk, "upwards, hole " + hole, desk.side(0, hole), x[hole], 0);
            Desk.due(desk, "down to the left, hole " + hole, desk.side(1, hole), y[hole], 0);
        }
        BoreDesk down = Desk.with("hole a at 5 5;hole b at 6 5;hole c at 4 5;fault x from 5 2 to 5 1 throws 1;");
        Desk.due("downwards, on it", down.side(0, 0), 0);
        Desk.due("downwards, at more x", down.side(0, 1), 0);
        Desk.due("downwards, at less x", down.side(0, 2), 1);
        BoreDesk far = Desk.with("hole a at 0 999;hole b at 999 0;fault x from 0 0 to 999 999 throws 1;fault y from 999 998 to 0 0 throws 1;");
        Desk.due("far on the left", far.side(0, 0), 0);
        Desk.due("far on the right", far.side(0, 1), 1);
        Desk.due("far on the right, looking back", far.side(1, 0), 1);
        Desk.due("far on the left, looking back", far.side(1, 1), 0);
    }

    // Promise 19: "(1)"
    private static void sideRefused() {
        for (int number : new int[] {-1, 4, LEAST, MOST}) {
            Picture.refused("side of fault " + number, desk -> desk.side(number, 0), 1);
            Picture.refused("side of hole " + number, desk -> desk.side(0, number), 1);
        }
        Picture.refused("side of fault 1", desk -> desk.side(1, 0), 1);
    }

    // Promise 20: "MATCH of two HOLES: the COST (1: one and itself, too)."
    private static void match() {
        for (int hole = 0; hole < 4; hole++) {
            int same = hole;
            Picture.refused("one and itself", desk -> desk.match(same, same), 1);
        }
        for (int hole : new int[] {-1, 4, 6, LEAST, MOST}) {
            Picture.refused("match " + hole + " 0", desk -> desk.match(hole, 0), 1);
            Picture.refused("match 0 " + hole, desk -> desk.match(0, hole), 1);
            Picture.refused("match of none and itself", desk -> desk.match(hole, hole), 1);
        }
    }

    // Part 2: "MATCH of two HOLES: LAYERS of both from the top down are paired, or left out" - none at all
    // Part 2: "one left out costs its SKIP and how THICK it is."
    private static void matchOfNothing() {
        BoreDesk desk = Desk.with("rock a skip 0;rock b skip 99;hole g at 0 0;hole h at 1 1;hole i at 2 2 bed a thick 1 bed b thick 99;");
        Desk.due(desk, "none with none", desk.match(0, 1), 0, 0);
        Desk.due(desk, "no pairs", desk.pairs(), 0, 0);
        Desk.due(desk, "none with two", desk.match(0, 2), 1 + 198, 0);
        Desk.due(desk, "no layer 0", desk.pairOf(0), -1, 6);
        Desk.due(desk, "two with none", desk.match(2, 0), 199, 0);
        Desk.due(desk, "layer 0 is left out", desk.pairOf(0), -1, 6);
        Desk.due(desk, "layer 1 is left out", desk.pairOf(1), -1, 6);
        Desk.due(desk, "no pairs either", desk.pairs(), 0, 0);
    }

    // Part 2: "a pair costs what its ROCKS cost (0 if alike) and by how much one is thicker"
    private static void matchCosts() {
        String rocks = "rock a skip 99;rock b skip 99;rock c skip 99;unlike a b costs 0;";
        String[] beds = {"a 1|a 1", "a 99|a 1", "a 1|a 99", "a 5|b 5", "b 5|a 7", "a 5|c 5", "c 9|b 5"};
        int[] due = {0, 98, 98, 0, 2, 9, 13};
        for (int i = 0; i < due.length; i++) {
            String[] both = beds[i].replace(" ", " thick ").split("\\|");
            BoreDesk desk = Desk.with(rocks + "hole g at 0 0 bed " + both[0] + ";hole h at 1 1 bed " + both[1] + ";");
            Desk.due(desk, "a pair: " + beds[i], desk.match(0, 1), due[i], 0);
            Desk.due(desk, "one pair: " + beds[i], desk.pairs(), 1, 0);
            Desk.due(desk, "the other way: " + beds[i], desk.match(1, 0), due[i], 0);
        }
    }

    // Part 2: "so that pairs do not cross"
    // Part 2: "The least COST of all"
    private static void matchNotCrossed() {
        BoreDesk desk = Desk.with("rock a;rock b skip 1;rock c skip 99;unlike a b costs 99;unlike a c costs 99;unlike b c costs 99;"
                + "hole g at 0 0 bed a thick 9 bed b thick 9 bed c thick 9;hole h at 1 1 bed c thick 9 bed a thick 9 bed b thick 9;");
        // c is dear to leave out: a and b are, on both sides.
        Desk.due(desk, "c alone is paired", desk.match(0, 1), 14 + 10 + 14 + 10, 0);
        Desk.due(desk, "a is left out", desk.pairOf(0), -1, 6);
        Desk.due(desk, "b is left out", desk.pairOf(1), -1, 6);
        Desk.due(desk, "the lowest with the top", desk.pairOf(2), 0, 0);
    }

    // Part 2: "LAYERS, at most 12 in a HOLE later on" - as many as there may be on both sides of a MATCH
    private static void matchOfTwelve() {
        BoreDesk desk = Desk.with(ROCKS + "unlike a c costs 99;unlike a d costs 99;unlike b c costs 99;unlike b d costs 99;"
                + "hole g at 0 0;hole h at 1 1;hole i at 9 9;");
        for (int layer = 0; layer < 12; layer++) {
            for (int turn = 0; turn < 11; turn++) {
                desk.lay(0, layer % 2, 90);
                desk.lay(1, 2 + layer % 2, 90);
            }
            desk.lay(2, layer % 2, 90);
        }
        Desk.due("as thick as eleven times 90", desk.layer(0, 11, 1), 990);
        Desk.due(desk, "all left out or paired at 99", desk.match(0, 1), 12 * 99, 0);
        Desk.due(desk, "twelve pairs", desk.pairs(), 12, 0);
        Desk.due(desk, "the last", desk.pairOf(11), 11, 0);
        Desk.due(desk, "alike ones, 900 thicker each", desk.match(0, 2), 12 * 900, 0);
        Desk.due(desk, "as many pairs", desk.pairs(), 12, 0);
    }

    // Part 2: "of these, from the top down: a pair ahead of leaving out that of the first, this ahead of leaving out that of the second."
    private static void matchTies() {
        // A pair costs 4 and 3, both left out 3 and 4.
        BoreDesk pair = Desk.with("rock a skip 1;rock b skip 1;unlike a b costs 4;hole g at 0 0 bed a thick 4;hole h at 1 1 bed b thick 1;");
        Desk.due(pair, "a tie", pair.match(0, 1), 7, 0);
        Desk.due(pair, "a pair", pair.pairOf(0), 0, 0);
        BoreDesk dearer = Desk.with("rock a skip 1;rock b skip 1;unlike a b costs 5;hole g at 0 0 bed a thick 4;hole h at 1 1 bed b thick 1;");
        Desk.due(dearer, "dearer by one", dearer.match(0, 1), 7, 0);
        Desk.due(dearer, "no pair", dearer.pairs(), 0, 0);
        // Of two alike ones in the second hole the first is paired, of two in the first the first, too.
        BoreDesk alike = Desk.with("rock a;hole g at 0 0 bed a thick 2;hole h at 1 1 bed a thick 2 bed a thick 2;");
        Desk.due(alike, "one with two", alike.match(0, 1), 7, 0);
        Desk.due(alike, "the first of the second", alike.pairOf(0), 0, 0);
        Desk.due(alike, "two with one", alike.match(1, 0), 7, 0);
        Desk.due(alike, "the first of the first", alike.pairOf(0), 0, 0);
        Desk.due(alike, "the second is left out", alike.pairOf(1), -1, 6);
        // a over b, b over a: either the pair of a or that of b; that of the first is left out ahead.
        BoreDesk crossed = Desk.with("rock a;rock b;unlike a b costs 99;"
                + "hole g at 0 0 bed a thick 2 bed b thick 2;hole h at 1 1 bed b thick 2 bed a thick 2;");
        Desk.due(crossed, "crossed", crossed.match(0, 1), 14, 0);
        Desk.due(crossed, "that of the first is left out", crossed.pairOf(0), -1, 6);
        Desk.due(crossed, "its second is paired", crossed.pairOf(1), 0, 0);
        Desk.due(crossed, "crossed the other way", crossed.match(1, 0), 14, 0);
        Desk.due(crossed, "that of the first is left out, too", crossed.pairOf(0), -1, 6);
        Desk.due(crossed, "its second is paired, too", crossed.pairOf(1), 0, 0);
    }

    // Promise 21: "Of the latest match() with STATUS 0: the LAYER of the second with which one of the first (told by its number) is paired"
    private static void pairOf() {
        BoreDesk desk = Desk.with(Picture.FIELD);
        Desk.due(desk, "match", desk.match(0, 1), 8, 0);
        Desk.due(desk, "the first", desk.pairOf(0), 0, 0);
        Desk.due(desk, "left out", desk.pairOf(1), -1, 6);
        Desk.due(desk, "the last", desk.pairOf(2), 1, 0);
        Desk.due(desk, "match with STATUS 1", desk.match(3, 3), -1, 1);
        Desk.due(desk, "still the last", desk.pairOf(2), 1, 0);
        Desk.due(desk, "a later match", desk.match(3, 0) >= 0, true, 0);
        Desk.due(desk, "of the later one", desk.pairOf(0), 2, 0);
        Desk.due(desk, "it has no layer 2", desk.pairOf(2), -1, 6);
    }

    // Promise 21: "(6: it is left out, there is none such, none was)"
    private static void pairOfNone() {
        for (int layer : new int[] {-1, 3, 12, LEAST, MOST}) {
            Picture.refused("there is none such: " + layer, desk -> desk.pairOf(layer), 6);
        }
        BoreDesk desk = new BoreDesk();
        Desk.due(desk, "none was", desk.pairOf(0), -1, 6);
        Desk.field(desk, Picture.FIELD);
        desk.treeCost();
        desk.beds();
        Desk.due(desk, "none was, with beds", desk.pairOf(0), -1, 6);
        desk.match(0, 0);
        Desk.due(desk, "none was with STATUS 0", desk.pairOf(0), -1, 6);
    }

    // Promise 22: "How many pairs it has (6: there was none)."
    private static void pairs() {
        BoreDesk desk = new BoreDesk();
        Desk.due(desk, "there was none", desk.pairs(), -1, 6);
        Desk.field(desk, Picture.FIELD);
        desk.match(0, 4);
        Desk.due(desk, "none with STATUS 0", desk.pairs(), -1, 6);
        desk.match(0, 1);
        Desk.due(desk, "two", desk.pairs(), 2, 0);
        desk.match(1, 1);
        Desk.due(desk, "still two", desk.pairs(), 2, 0);
    }

    // Promise 23: "The k-th couple of the TREE, what 0: the first HOLE, 1: the second, 2: the square of their distance (1: what; 6)."
    private static void treeNumbers() {
        BoreDesk desk = Desk.with(Picture.FIELD);
        int[][] due = {{0, 1, 36}, {0, 2, 64}, {2, 3, 60 * 60 + 72 * 72}};
        for (int k = 0; k < 3; k++) {
            for (int what = 0; what <= 2; what++) {
                Desk.due(desk, "tree " + k + " " + what, desk.tree(k, what), due[k][what], 0);
            }
        }
        for (int what : new int[] {-1, 3, LEAST, MOST}) {
            Picture.refused("tree's what " + what, full -> full.tree(0, what), 1);
            Picture.refused("1 ahead of 6", full -> full.tree(3, what), 1);
        }
        for (int k : new int[] {-1, 3, 6, LEAST, MOST}) {
            Picture.refused("couple " + k, full -> full.tree(k, 0), 6);
        }
    }

    // Part 2: "TREE: couples of HOLES" - of none, one, two HOLES
    private static void treeOfFew() {
        BoreDesk none = new BoreDesk();
        Desk.due(none, "no holes", none.tree(0, 0), -1, 6);
        BoreDesk one = Desk.with("hole a at 0 0;");
        Desk.due(one, "one hole", one.tree(0, 0), -1, 6);
        BoreDesk two = Desk.with("hole a at 0 0;hole b at 0 1;");
        Desk.due(two, "two holes", two.tree(0, 2), 1, 0);
        Desk.due(two, "one couple alone", two.tree(1, 2), -1, 6);
        BoreDesk six = Desk.with("hole a at 0 0;hole b at 0 1;hole c at 0 2;hole d at 0 3;hole e at 0 4;hole f at 0 5;");
        Desk.due(six, "six holes", six.tree(4, 1), 5, 0);
        Desk.due(six, "five couples alone", six.tree(5, 1), -1, 6);
    }

    // Part 2: "one after another that with the least square of the distance (of several the least first, then the least second HOLE, the first below the second)"
    private static void treeTies() {
        // A square with its middle: each corner is as near to the middle.
        BoreDesk desk = Desk.with("hole a at 4 4;hole b at 0 0;hole c at 0 8;hole d at 8 0;hole e at 8 8;");
        couples(desk, new int[][] {{0, 1, 32}, {0, 2, 32}, {0, 3, 32}, {0, 4, 32}});
        // The middle comes last: couples are told with the less number first.
        BoreDesk last = Desk.with("hole b at 0 0;hole c at 0 8;hole d at 8 0;hole e at 8 8;hole a at 4 4;");
        couples(last, new int[][] {{0, 4, 32}, {1, 4, 32}, {2, 4, 32}, {3, 4, 32}});
        BoreDesk square = Desk.with("hole a at 0 0;hole b at 9 9;hole c at 9 0;hole d at 0 9;");
        couples(square, new int[][] {{0, 2, 81}, {0, 3, 81}, {1, 2, 81}});
        // The least first HOLE goes ahead of the least second one.
        BoreDesk rows = Desk.with("hole a at 0 0;hole b at 50 0;hole c at 51 0;hole d at 0 1;");
        couples(rows, new int[][] {{0, 3, 1}, {1, 2, 1}, {0, 1, 2500}});
    }

    private static void couples(BoreDesk desk, int[][] due) {
        for (int k = 0; k < due.length; k++) {
            for (int what = 0; what <= 2; what++) {
                Desk.due(desk, "couple " + k + " " + what, desk.tree(k, what), due[k][what], 0);
            }
        }
        Desk.due(desk, "no more", desk.tree(due.length, 0), -1, 6);
    }

    // Part 2: "that joins what is not joined yet"
    private static void treeJoinsWhatIsNotJoined() {
        // Two groups of three, each with a third side that is shorter than the way between them.
        BoreDesk desk = Desk.with("hole a at 0 0;hole b at 1 0;hole c at 0 1;hole d at 100 100;hole e at 101 100;hole f at 100 101;");
        couples(desk, new int[][] {{0, 1, 1}, {0, 2, 1}, {3, 4, 1}, {3, 5, 1}, {1, 3, 99 * 99 + 10000}});
    }

    // Terms: "AT x, y (0 to 999 each)" - as far from one another as there may be
    private static void treeFarthest() {
        BoreDesk desk = Desk.with("hole a at 0 0;hole b at 999 999;");
        couples(desk, new int[][] {{0, 1, 2 * 999 * 999}});
    }

    // Promise 24: "COSTS of MATCHES of all couples of the TREE together."
    private static void treeCost() {
        BoreDesk none = new BoreDesk();
        Desk.due(none, "no holes", none.treeCost(), 0, 0);
        BoreDesk one = Desk.with("rock a;hole h at 0 0 bed a thick 9;");
        Desk.due(one, "one hole", one.treeCost(), 0, 0);
        BoreDesk desk = Desk.with(Picture.FIELD);
        int due = desk.match(0, 1) + desk.match(0, 2) + desk.match(2, 3);
        Desk.due(desk, "three couples", desk.treeCost(), due, 0);
        Desk.due("of the three", due, 8 + 10 + 9);
    }

    // Promise 25: "How many BEDS there are."
    private static void bedsOfNone() {
        BoreDesk none = new BoreDesk();
        Desk.due(none, "no holes", none.beds(), 0, 0);
        BoreDesk bare = Desk.with("rock a;hole h at 0 0;hole i at 1 1;");
        Desk.due(bare, "no layers", bare.beds(), 0, 0);
        Desk.due(bare, "no bed 0", bare.holesOf(0), -1, 1);
        Desk.due(bare, "one laid", bare.lay(1, 0, 1), 1, 0);
        Desk.due(bare, "one bed", bare.beds(), 1, 0);
        Desk.due(bare, "worn off", bare.wear(1, 1), 1, 0);
        Desk.due(bare, "no bed again", bare.beds(), 0, 0);
    }

    // Part 2: "BEDS: LAYERS that are paired by couples of the TREE" - as many BEDS as there may be
    private static void bedsMost() {
        StringBuilder text = new StringBuilder();
        for (char rock = 'a'; rock <= 'd'; rock++) {
            text.append("rock ").append(rock).append(" skip 0;");
        }
        text.append("unlike a c costs 99;unlike a d costs 99;unlike b c costs 99;unlike b d costs 99;");
        for (int i = 0; i < 6; i++) {
            text.append("hole ").append((char) ('g' + i)).append(" at ").append(i).append(" 0;");
        }
        BoreDesk desk = Desk.with(text.toString());
        for (int i = 0; i < 12; i++) {
            for (int hole = 0; hole < 6; hole++) {
                desk.lay(hole, hole % 2 * 2 + i % 2, 1);
            }
        }
        Desk.due(desk, "all apart", desk.beds(), 72, 0);
        Desk.due(desk, "the last layer", desk.bedOf(5, 11), 71, 0);
        Desk.due(desk, "bed 71", desk.holesOf(71), 32, 0);
        Desk.due(desk, "bed 72", desk.holesOf(72), -1, 1);
        Desk.due(desk, "all left out", desk.treeCost(), 5 * 24, 0);
        Desk.due(desk, "the last in order", desk.order(71), 71, 0);
        Desk.due(desk, "no more in order", desk.order(72), -1, 6);
    }

    // Part 2: "numbered by HOLES, then from the top: as each is come to first."
    // Part 2: "(As the TREE has no rounds, a BED has one LAYER of a HOLE at most.)"
    private static void bedsNumbered() {
        BoreDesk desk = Desk.with(ROCKS + "unlike a b costs 99;unlike a c costs 99;unlike b c costs 99;"
                + "hole g at 0 0 bed b thick 9;hole h at 1 0 bed a thick 9 bed b thick 9 bed c thick 9 bed b thick 9;"
                + "hole i at 2 0 bed c thick 9 bed b thick 9 bed b thick 9;");
        int[][] due = {{0}, {1, 0, 2, 3}, {2, 3, 4}};
        for (int hole = 0; hole < 3; hole++) {
            for (int layer = 0; layer < due[hole].length; layer++) {
                Desk.due(desk, "bed of " + hole + " " + layer, desk.bedOf(hole, layer), due[hole][layer], 0);
            }
        }
        Desk.due(desk, "beds", desk.beds(), 5, 0);
    }

    // Part 2: "LAYERS that are paired by couples of the TREE (the first HOLE's with the second's), and so on, are one BED"
    private static void bedsAlongTheTree() {
        String ends = "hole g at 0 0 bed a thick 9;hole i at 9 0 bed a thick 9;";
        BoreDesk through = Desk.with(ROCKS + "unlike a b costs 99;" + ends + "hole h at 5 0 bed a thick 9;");
        Desk.due(through, "through the hole between", through.holesOf(0), 7, 0);
        BoreDesk apart = Desk.with(ROCKS + "unlike a b costs 99;" + ends + "hole h at 5 0 bed b thick 9;");
        Desk.due(apart, "not where it has another rock", apart.holesOf(0), 1, 0);
        Desk.due(apart, "two of a, one of b", apart.beds(), 3, 0);
        BoreDesk near = Desk.with(ROCKS + "unlike a b costs 99;" + ends + "hole h at 5 900 bed b thick 9;");
        Desk.due(near, "where they are a couple themselves", near.holesOf(0), 3, 0);
        // The couple's first HOLE is the first of the MATCH: of two alike ones below, the upper one pairs with that of the first.
        BoreDesk first = Desk.with(ROCKS + "unlike a b costs 99;hole g at 0 0 bed a thick 2 bed b thick 2;hole h at 1 1 bed b thick 2 bed a thick 2;");
        Desk.due(first, "a of the first is left out", first.bedOf(0, 0), 0, 0);
        Desk.due(first, "b of both is one bed", first.holesOf(1), 3, 0);
        Desk.due(first, "a of the second is a bed of its own", first.holesOf(2), 2, 0);
    }

    // Promise 26: "The BED of a LAYER (1)."
    private static void bedOf() {
        for (int number : new int[] {-1, 4, 12, LEAST, MOST}) {
            Picture.refused("bed of layer " + number, desk -> desk.bedOf(0, number), 1);
            Picture.refused("bed of hole " + number, desk -> desk.bedOf(number, 0), 1);
        }
        Picture.refused("one behind the last layer", desk -> desk.bedOf(3, 1), 1);
        BoreDesk desk = Desk.with(Picture.FIELD);
        Desk.due(desk, "the last layer of the last hole", desk.bedOf(3, 0), 2, 0);
    }

    // Promise 27: "The set of HOLES (1 for HOLE 0 ..) that have a BED (1)."
    private static void holesOf() {
        BoreDesk desk = Desk.with("rock a;rock b;unlike a b costs 99;hole g at 0 0 bed a thick 1;hole h at 0 1 bed a thick 1;"
                + "hole i at 0 2 bed a thick 1;hole j at 0 3 bed a thick 1;hole k at 0 4 bed a thick 1;hole l at 0 5 bed a thick 1 bed b thick 1;");
        Desk.due(desk, "all six", desk.holesOf(0), 63, 0);
        Desk.due(desk, "the last alone", desk.holesOf(1), 32, 0);
        for (int bed : new int[] {-1, 4, LEAST, MOST}) {
            Picture.refused("holes of bed " + bed, full -> full.holesOf(bed), 1);
        }
        Desk.due(desk, "one behind the last", desk.holesOf(2), -1, 1);
    }

    // Promise 28: "Of a BED in a HOLE, what 0: its top's DEPTH, 1: its thickness, 2: which LAYER it is (1; 6: the HOLE has it not)."
    private static void bed() {
        BoreDesk desk = Desk.with(Picture.FIELD);
        Desk.due(desk, "depth", desk.bed(2, 0, 0), 13, 0);
        Desk.due(desk, "thickness", desk.bed(2, 0, 1), 6, 0);
        Desk.due(desk, "layer", desk.bed(2, 0, 2), 2, 0);
        Desk.due(desk, "the hole has it not", desk.bed(1, 1, 0), -1, 6);
        Desk.due(desk, "one behind the last bed", desk.bed(3, 0, 0), -1, 1);
        for (int what = 0; what <= 2; what++) {
            int asked = what;
            Picture.refused("has it not, what " + what, full -> full.bed(0, 3, asked), 6);
        }
        for (int number : new int[] {-1, 4, LEAST, MOST}) {
            Picture.refused("bed " + number, full -> full.bed(number, 0, 0), 1);
            Picture.refused("bed in hole " + number, full -> full.bed(0, number, 0), 1);
            Picture.refused("bed's what " + number, full -> full.bed(0, 0, number), 1);
            Picture.refused("1 ahead of 6", full -> full.bed(0, 3, number), 1);
        }
        Picture.refused("bed's what 3", full -> full.bed(0, 0, 3), 1);
    }

    // Promise 29: "1 if a BED is ABOVE another one, else 0 (1)."
    private static void above() {
        BoreDesk desk = Desk.with(Picture.FIELD);
        for (int a = 0; a < 3; a++) {
            for (int b = 0; b < 3; b++) {
                Desk.due(desk, a + " above " + b, desk.above(a, b), a < b ? 1 : 0, 0);
            }
        }
        Desk.due(desk, "one behind the last", desk.above(0, 3), -1, 1);
        for (int bed : new int[] {-1, 4, LEAST, MOST}) {
            Picture.refused("above " + bed + " 0", full -> full.above(bed, 0), 1);
            Picture.refused("above 0 " + bed, full -> full.above(0, bed), 1);
            Picture.refused("above of none and itself", full -> full.above(bed, bed), 1);
        }
    }

    // Part 2: "ABOVE: a BED is ABOVE another one, if in a HOLE that has both its LAYER is higher."
    private static void aboveInOneOfTheHoles() {
        BoreDesk desk = Desk.with("rock a;rock b;rock c;unlike a b costs 99;unlike a c costs 99;unlike b c costs 99;"
                + "hole g at 0 0 bed a thick 9;hole h at 1 0 bed b thick 9;hole i at 2 0 bed c thick 9 bed b thick 9;"
                + "fault f from 1 9 to 1 0 throws 900;");
        Desk.due(desk, "a in g, b in h and i, c in i", desk.beds(), 3, 0);
        Desk.due(desk, "no hole has both", desk.above(0, 1), 0, 0);
        Desk.due(desk, "no hole has both, the other way", desk.above(1, 0), 0, 0);
        Desk.due(desk, "in the one that has both", desk.above(2, 1), 1, 0);
        Desk.due(desk, "lower in the one that has both", desk.above(1, 2), 0, 0);
    }

    // Promise 30: "The k-th BED in ORDER (1: k below 0; 6: there are not so many; 7: there is no ORDER)."
    private static void orderNumbers() {
        BoreDesk desk = Desk.with(Picture.FIELD);
        for (int k = 0; k < 3; k++) {
            Desk.due(desk, "order " + k, desk.order(k), k, 0);
        }
        Desk.due(desk, "one more than there are", desk.order(3), -1, 6);
        Picture.refused("k -1", full -> full.order(-1), 1);
        Picture.refused("the least k", full -> full.order(LEAST), 1);
        Picture.refused("k 4", full -> full.order(4), 6);
        Picture.refused("the greatest k", full -> full.order(MOST), 6);
        BoreDesk none = new BoreDesk();
        Desk.due(none, "k 0 of none", none.order(0), -1, 6);
        Desk.due(none, "1 ahead of 6", none.order(-1), -1, 1);
    }

    // Part 2: "ORDER of BEDS: one after another the least number of those left above which none that is left is ABOVE"
    private static void orderOfLeast() {
        BoreDesk desk = Desk.with("rock a;rock b;rock c;unlike a b costs 99;unlike a c costs 99;unlike b c costs 99;"
                + "hole g at 0 0 bed a thick 9;hole h at 1 0 bed b thick 9 bed a thick 9;hole i at 2 0 bed c thick 9 bed b thick 9;"
                + "hole j at 3 0 bed c thick 9 bed c thick 9;");
        // a is 0, b 1, c 2, the lower c of hole j 3: c over b over a, and c over the lower c.
        Desk.due(desk, "beds", desk.beds(), 4, 0);
        int[] due = {2, 1, 0, 3};
        for (int k = 0; k < 4; k++) {
            Desk.due(desk, "order " + k, desk.order(k), due[k], 0);
        }
    }

    // Part 2: "if there is none such, there is no ORDER."
    private static void orderThereIs() {
        // As pairs do not cross and the TREE has no rounds, no BED can be ABOVE itself by others: there is always one.
        int seed = 7;
        for (int made = 0; made < 300; made++) {
            StringBuilder text = new StringBuilder("rock a skip 1;rock b skip 2;rock c skip 0;unlike a b costs 1;unlike b c costs 3;");
            for (int hole = 0; hole < 6; hole++) {
                seed = (seed * 2777 + 9551) % 65536;
                text.append("hole ").append((char) ('g' + hole)).append(" at ").append(hole * 10 + seed / 8 % 10).append(' ').append(seed / 80 % 100);
                for (int layer = 0; layer < 5; layer++) {
                    seed = (seed * 2777 + 9551) % 65536;
                    text.append(" bed ").append((char) ('a' + seed / 8 % 3)).append(" thick ").append(1 + seed / 24 % 4);
                }
                text.append(';');
            }
            BoreDesk desk = Desk.with(text.toString());
            int[] place = new int[desk.beds()];
            for (int k = 0; k < place.length; k++) {
                int bed = desk.order(k);
                Desk.due("STATUS of order " + k, desk.status(), 0);
                place[Math.max(bed, 0)] = k;
            }
            Desk.due(desk, "no more", desk.order(place.length), -1, 6);
            for (int a = 0; a < place.length && a < 12; a++) {
                for (int b = 0; b < place.length && b < 12; b++) {
                    Desk.due("above is ahead", desk.above(a, b) == 0 || place[a] < place[b], true);
                }
            }
        }
    }

    // Promise 31: "The BED that most HOLES have, of several the first (6: there is none)."
    private static void widest() {
        BoreDesk none = new BoreDesk();
        Desk.due(none, "no holes", none.widest(), -1, 6);
        BoreDesk bare = Desk.with("rock a;rock b;rock c;unlike a b costs 99;unlike a c costs 99;unlike b c costs 99;"
                + "hole g at 0 0;hole h at 0 1;hole i at 0 2;");
        Desk.due(bare, "no layers", bare.widest(), -1, 6);
        bare.lay(2, 1, 5);
        Desk.due(bare, "one bed", bare.widest(), 0, 0);
        bare.lay(0, 0, 5);
        Desk.due(bare, "of two the first", bare.widest(), 0, 0);
        bare.lay(1, 1, 5);
        Desk.due(bare, "two holes have the second", bare.widest(), 1, 0);
        bare.lay(1, 0, 5);
        Desk.due(bare, "of two in two holes the first", bare.widest(), 0, 0);
    }
}
