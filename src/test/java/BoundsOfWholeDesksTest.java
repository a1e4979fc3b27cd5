import java.util.ArrayList;
import java.util.List;
import java.util.function.Supplier;

/** Bounds that are met by a desk as a whole: as much as there may be of all at once, and a desk that is used again. */
public final class BoundsOfWholeDesksTest {
    private static final int PARTS = 6;
    private static final String SMALL = "rock y skip 1;rock z;hole v at 3 3 bed z thick 2;hole w at 7 3 bed z thick 9;hole x at 3 8 bed y thick 1;"
            + "triangle v w x;fault u from 0 9 to 9 0 throws 6;";

    public static void main(String[] args) {
        mostOfAll();
        mostOfAllTold();
        mostOfAllMarked();
        fieldsOneAfterAnother();
        fieldsRefusedBetween();
        layersGoneDoNotShow();
        treeAndBedsAnew();
        orderAnew();
        mateFarthest();
        livedAnew();
        yearsAnew();
        trianglesSideBySide();
        justOutside();
        namesOfAllLetters();
        Desk.end();
    }

    /** As much of all as there may be: 8 ROCKS, 6 HOLES of 8 LAYERS, 8 TRIANGLES, 2 FAULTS, in 900 bytes. */
    private static String most() {
        StringBuilder text = new StringBuilder();
        for (char rock = 'a'; rock <= 'h'; rock++) {
            text.append("rock ").append(rock).append(" skip ").append(rock - 'a').append(';');
        }
        text.append("unlike a b costs 99;unlike g h costs 98;unlike a h costs 97;");
        for (int hole = 0; hole < 6; hole++) {
            text.append("hole ").append((char) ('i' + hole)).append(" at ").append(hole % 3 * 400).append(' ').append(hole / 3 * 300 + hole);
            for (int layer = 0; layer < 3; layer++) {
                text.append(" bed ").append((char) ('a' + (hole + 3 * layer) % 8)).append(" thick ").append(1 + hole + layer);
            }
            text.append(';');
        }
        text.append("triangle i j l;triangle j k m;triangle k m n;triangle l m j;triangle i k m;triangle m n i;triangle l k i;triangle n m k;");
        text.append("fault o from 999 303 to 0 303 throws 999;fault p from 600 0 to 600 9 throws 998;");
        return text.toString();
    }

    private static BoreDesk mostDesk() {
        BoreDesk desk = Desk.with(most());
        for (int hole = 0; hole < 6; hole++) {
            for (int layer = 3; layer < 12; layer++) {
                Desk.due(desk, "one more", desk.lay(hole, (hole + 3 * layer) % 8, 90 + layer % 9), layer + 1, 0);
            }
        }
        return desk;
    }

    private static BoreDesk smallDesk() {
        return Desk.with(SMALL);
    }

    /** A part of what a desk tells: all parts together are more than the calls that it has. */
    private static List<String> part(BoreDesk desk, int part) {
        List<String> lines = new ArrayList<>();
        for (int i = 0; i < 72; i++) {
            int hole = i / 12;
            int layer = i % 12;
            switch (part) {
                case 0: lines.add("layer " + i + " " + desk.layer(hole, layer, 0) + " " + desk.layer(hole, layer, 1) + " " + desk.layer(hole, layer, 2)); break;
                case 1: lines.add("bed of " + i + " " + desk.bedOf(hole, layer) + " " + desk.holesOf(i) + " " + desk.order(i)); break;
                case 2: lines.add("fraction of " + i + " " + (desk.volumeOf(i) ? desk.top() + "/" + desk.bottom() : "none")); break;
                case 3: lines.add("unlike " + i + " " + desk.unlike(i / 8, i % 8) + " " + desk.skip(i) + " " + desk.deepest(i)); break;
                case 4: lines.add("match " + i + " " + desk.match(hole, layer) + " " + desk.pairs() + " " + desk.pairOf(layer)); break;
                default: break;
            }
        }
        for (int i = 0; i < 8 && part == 5; i++) {
            lines.add("hole " + i + " " + desk.hole(i, 0) + " " + desk.hole(i, 1) + " " + desk.hole(i, 2) + " " + desk.hole(i, 3) + " " + desk.hole(i, 4));
            lines.add("tree " + i + " " + desk.tree(i, 0) + " " + desk.tree(i, 1) + " " + desk.tree(i, 2) + " " + desk.side(0, i) + " " + desk.side(1, i));
            lines.add("triangle " + i + " " + (desk.area(i) ? desk.top() : -1) + " " + desk.across(i) + " " + desk.gaps(i) + " " + desk.shared(i, 2));
            lines.add("told " + desk.told(i) + " cost " + desk.treeCost() + " beds " + desk.beds() + " widest " + desk.widest());
            lines.add("at " + desk.triangleAt(100 * i, 50 * i) + (desk.thickAt(0, 100 * i, 50 * i) ? desk.top() + "/" + desk.bottom() : "none"));
        }
        return lines;
    }

    private static void same(String what, Supplier<BoreDesk> got, Supplier<BoreDesk> due) {
        for (int part = 0; part < PARTS; part++) {
            List<String> dueLines = part(due.get(), part);
            List<String> gotLines = part(got.get(), part);
            for (int i = 0; i < dueLines.size(); i++) {
                Desk.due(what + ": " + gotLines.get(i) + ", due is " + dueLines.get(i), gotLines.get(i).equals(dueLines.get(i)), true);
            }
        }
    }

    // Terms: "ROCKS, at most 8"
    // Terms: "HOLES, at most 6"
    // Terms: "TRIANGLES, at most 8"
    // Terms: "FAULTS, at most 2"
    // Part 2: "LAYERS, at most 12 in a HOLE later on"
    private static void mostOfAll() {
        Desk.due("a text of at most 900 bytes", most().length() <= 900, true);
        BoreDesk desk = mostDesk();
        int[] told = {8, 6, 8, 2};
        for (int what = 0; what <= 3; what++) {
            Desk.due(desk, "told " + what, desk.told(what), told[what], 0);
        }
        for (int hole = 0; hole < 6; hole++) {
            Desk.due(desk, "layers of " + hole, desk.hole(hole, 2), 12, 0);
            Desk.due(desk, "a 13th on " + hole, desk.lay(hole, (hole + 36) % 8, 1), -1, 4);
        }
        int[] thrown = {0, 0, 998, 0, 999, 1997};
        int[] across = {0, 1, 1, 1, 1, 1, 1, 1};
        for (int hole = 0; hole < 6; hole++) {
            Desk.due(desk, "thrown at " + hole, desk.hole(hole, 4), thrown[hole], 0);
        }
        for (int triangle = 0; triangle < 8; triangle++) {
            Desk.due(desk, "across " + triangle, desk.across(triangle), across[triangle], 0);
        }
    }

    // Promise 31: "The BED that most HOLES have"
    // Promise 41: "SHARED"
    // Promise 42: "GAPS of a HOLE"
    // Promise 24: "COSTS of MATCHES of all couples of the TREE together."
    private static void mostOfAllTold() {
        StringBuilder text = new StringBuilder();
        for (char rock = 'a'; rock <= 'd'; rock++) {
            text.append("rock ").append(rock).append(" skip 0;");
        }
        text.append("unlike a c costs 99;unlike a d costs 99;unlike b c costs 99;unlike b d costs 99;");
        for (int i = 0; i < 6; i++) {
            text.append("hole ").append((char) ('g' + i)).append(" at ").append(i).append(' ').append(i * i).append(';');
        }
        BoreDesk desk = Desk.with(text + "triangle g h i;".repeat(8));
        for (int i = 0; i < 12; i++) {
            for (int hole = 0; hole < 6; hole++) {
                desk.lay(hole, hole % 2 * 2 + i % 2, 1);
            }
        }
        Desk.due(desk, "72 beds", desk.beds(), 72, 0);
        Desk.due(desk, "the widest is in one hole", desk.widest(), 0, 0);
        for (int hole = 0; hole < 5; hole++) {
            Desk.due(desk, "none shared by " + hole, desk.shared(hole, 5), 0, 0);
            Desk.due(desk, "no gaps in " + hole, desk.gaps(hole), 0, 0);
        }
        Desk.due(desk, "cost", desk.treeCost(), 5 * 24, 0);
        Desk.due(desk, "the last in order", desk.order(71), 71, 0);
        Desk.due(desk, "the last bed's hole", desk.deepest(71), 5, 0);
        Desk.due(desk, "its layer", desk.bed(71, 5, 2), 11, 0);
        Desk.due(desk, "the last but one is above it", desk.above(70, 71), 1, 0);
        Desk.due(desk, "its top can't be", desk.topAt(71, 0, 0), false, 7);
        Desk.fraction(desk, "nothing of it there", desk.thickAt(71, 0, 0), 0, 1);
        Desk.fraction(desk, "nothing of it in all", desk.volumeOf(71), 0, 1);
        Desk.fraction(desk, "the first, eight times 1 by 1/3", desk.volumeOf(0), 8, 3);
    }

    // Part 4: "MARKS, at most 3: the FIELD with all that became of it" - as much as there may be
    private static void mostOfAllMarked() {
        same("three marks of the most", () -> {
            BoreDesk desk = mostDesk();
            for (int many = 1; many <= 3; many++) {
                Desk.due(desk, "mark", desk.mark(), many, 0);
                desk.throwing(0, many);
                desk.throwing(1, many);
                for (int hole = 0; hole < 6; hole++) {
                    desk.wear(hole, 99);
                }
            }
            Desk.field(desk, SMALL);
            Desk.due(desk, "two are left", desk.back(), 2, 0);
            desk.back();
            Desk.due(desk, "none is left", desk.back(), 0, 0);
            return desk;
        }, BoundsOfWholeDesksTest::mostDesk);
        same("the most ahead of a small one", () -> {
            BoreDesk desk = smallDesk();
            desk.mark();
            Desk.field(desk, most());
            desk.mark();
            desk.back();
            Desk.due(desk, "none is left", desk.back(), 0, 0);
            return desk;
        }, BoundsOfWholeDesksTest::smallDesk);
    }

    // Terms: "A FIELD that is taken is there in place of that ahead" - whatever was there ahead, and how often
    private static void fieldsOneAfterAnother() {
        same("small behind most", () -> {
            BoreDesk desk = Desk.with(most());
            desk.beds();
            Desk.field(desk, most());
            Desk.field(desk, most());
            Desk.due(desk, "a small one", Desk.field(desk, SMALL), 3, 0);
            return desk;
        }, BoundsOfWholeDesksTest::smallDesk);
        same("most behind small", () -> {
            BoreDesk desk = smallDesk();
            desk.treeCost();
            Desk.field(desk, SMALL);
            Desk.due(desk, "the most", Desk.field(desk, most()), 6, 0);
            return desk;
        }, () -> Desk.with(most()));
        same("none behind most", () -> {
            BoreDesk desk = Desk.with(most());
            desk.order(0);
            Desk.due(desk, "an empty one", desk.field(0), 0, 0);
            return desk;
        }, BoreDesk::new);
    }

    // Promise 10: "9: the old one stays" - and leaves nothing of what was refused to the next one
    private static void fieldsRefusedBetween() {
        same("small behind most refused", () -> {
            BoreDesk desk = smallDesk();
            for (int turn = 0; turn < 3; turn++) {
                Desk.due(desk, "refused at its end", Desk.field(desk, most() + "x"), -1, 9);
            }
            return desk;
        }, BoundsOfWholeDesksTest::smallDesk);
        same("small taken behind most refused", () -> {
            BoreDesk desk = new BoreDesk();
            Desk.due(desk, "refused at its end", Desk.field(desk, most() + "x"), -1, 9);
            Desk.due(desk, "taken", Desk.field(desk, SMALL), 3, 0);
            return desk;
        }, BoundsOfWholeDesksTest::smallDesk);
    }

    // Promise 52: "how much is gone" - what is gone is told no more
    private static void layersGoneDoNotShow() {
        BoreDesk desk = Desk.with("rock a;rock b;rock c;hole h at 1 1 bed a thick 4 bed b thick 2 bed c thick 3;");
        Desk.due(desk, "a is gone", desk.wear(0, 4), 4, 0);
        Desk.due(desk, "the foot", desk.layerAt(0, 5), -1, 6);
        Desk.due(desk, "the last unit", desk.layerAt(0, 4), 1, 0);
        Desk.due(desk, "two layers", desk.layer(0, 2, 0), -1, 1);
        Desk.due(desk, "two beds", desk.beds(), 2, 0);
        Desk.years(desk, "when has h a;stop;end;when top h a;stop;end;lay h b 1;");
        Desk.due(desk, "no a", desk.live(0), 3, 0);
        Desk.due(desk, "all is gone", desk.wear(0, 99), 6, 0);
        Desk.due(desk, "no unit 0", desk.layerAt(0, 0), -1, 6);
        Desk.years(desk, "when has h b;stop;end;when has h c;stop;end;when top h b;stop;end;when deep h > 0;stop;end;lay h c 9;");
        Desk.due(desk, "nothing", desk.live(0), 5, 0);
        Desk.due(desk, "one layer", desk.hole(0, 2), 1, 0);
        Desk.write(desk, 0, 2, 2, 2, 2, 2, 2, 2, 2, 2, 2);
        Desk.due(desk, "nine units", desk.agrees(0, 10, 0), 9, 0);
        desk.wear(0, 8);
        Desk.due(desk, "one unit", desk.agrees(0, 10, 0), 1, 0);
    }

    // Promise 25: "How many BEDS there are." - asked behind each change
    private static void treeAndBedsAnew() {
        BoreDesk desk = Desk.with("rock a;hole g at 0 0 bed a thick 3;hole h at 1 0 bed a thick 5;");
        Desk.due(desk, "one bed", desk.beds(), 1, 0);
        Desk.due(desk, "by 2", desk.treeCost(), 2, 0);
        desk.lay(0, 0, 1);
        Desk.due(desk, "by 1", desk.treeCost(), 1, 0);
        desk.wear(1, 5);
        Desk.due(desk, "left out", desk.treeCost(), 9, 0);
        Desk.due(desk, "one bed in one hole", desk.holesOf(0), 1, 0);
        desk.mark();
        Desk.field(desk, "rock a;rock b;hole g at 0 0 bed a thick 3;hole i at 0 9 bed a thick 3;hole h at 0 5 bed b thick 5;");
        Desk.due(desk, "another tree", desk.tree(0, 0), 1, 0);
        Desk.due(desk, "its cost", desk.treeCost(), 22, 0);
        desk.back();
        Desk.due(desk, "the tree is back", desk.tree(0, 1), 1, 0);
        Desk.due(desk, "one couple alone", desk.tree(1, 0), -1, 6);
        Desk.due(desk, "the cost is back", desk.treeCost(), 9, 0);
        Desk.years(desk, "lay h a 3;");
        desk.live(0);
        Desk.due(desk, "lived", desk.holesOf(0), 3, 0);
        Desk.due(desk, "its cost, lived", desk.treeCost(), 1, 0);
    }

    // Promise 30: "The k-th BED in ORDER" - asked again, and behind a change
    private static void orderAnew() {
        BoreDesk desk = Desk.with("rock a;rock b;rock c;unlike a b costs 99;unlike a c costs 99;unlike b c costs 99;"
                + "hole g at 0 0 bed b thick 9;hole h at 1 0 bed c thick 9 bed b thick 9;");
        int[][] due = {{1, 0}, {1, 0}};
        for (int[] asked : due) {
            for (int k = 0; k < 2; k++) {
                Desk.due(desk, "order " + k, desk.order(k), asked[k], 0);
            }
        }
        desk.wear(1, 9);
        Desk.due(desk, "b alone", desk.order(0), 0, 0);
        Desk.due(desk, "no second", desk.order(1), -1, 6);
        desk.lay(0, 0, 9);
        int[] now = {0, 1};
        for (int k = 0; k < 2; k++) {
            Desk.due(desk, "order now " + k, desk.order(k), now[k], 0);
        }
        Desk.due(desk, "a above b", desk.above(0, 1), 1, 0);
    }

    // Part 2: "LAYERS of both from the top down are paired, or left out" - as many left out as there may be ahead of a pair
    private static void mateFarthest() {
        BoreDesk desk = Desk.with("rock a skip 0;rock b skip 99;rock c skip 0;rock d skip 0;rock e skip 0;"
                + "unlike a c costs 99;unlike a e costs 99;unlike d c costs 99;unlike d e costs 99;"
                + "unlike a b costs 99;unlike b c costs 99;unlike d b costs 99;unlike e b costs 99;"
                + "hole g at 0 0 bed b thick 5;hole h at 1 0 bed b thick 5;");
        for (int i = 0; i < 11; i++) {
            desk.lay(0, i % 2 == 0 ? 0 : 3, 1);
            desk.lay(1, i % 2 == 0 ? 2 : 4, 1);
        }
        Desk.due(desk, "22 left out", desk.match(0, 1), 22, 0);
        Desk.due(desk, "one pair", desk.pairs(), 1, 0);
        Desk.due(desk, "the last ones", desk.pairOf(11), 11, 0);
        Desk.due(desk, "the others are left out", desk.pairOf(10), -1, 6);
        Desk.due(desk, "the other way", desk.match(1, 0), 22, 0);
        Desk.due(desk, "the last ones, too", desk.pairOf(11), 11, 0);
        Desk.due(desk, "beds", desk.beds(), 23, 0);
    }

    // Promise 55: "Of live() latest with STATUS 0" - one that left a STEP ahead of one that does not
    private static void livedAnew() {
        BoreDesk desk = Desk.with("rock a;hole h at 1 1;");
        Desk.years(desk, "loop 99;lay h a 1;wear h 1;storm 1;end;storm 1;storm 1;storm 1;lay h a 99;");
        Desk.due(desk, "300", desk.live(0), 300, 0);
        Desk.due(desk, "one was left", desk.lived(3), 1, 0);
        Desk.years(desk, "lay h a 3;");
        Desk.due(desk, "one step", desk.live(0), 1, 0);
        int[] due = {0, 3, 0, 0};
        for (int what = 0; what <= 3; what++) {
            Desk.due(desk, "lived " + what, desk.lived(what), due[what], 0);
        }
        Desk.due("nothing of the other years", desk.hole(0, 3), 3);
        Desk.due(desk, "again", desk.live(0), 1, 0);
        Desk.due(desk, "laid by it alone", desk.lived(1), 3, 0);
    }

    // Promise 11: "Likewise the YEARS" - as many as there may be ahead of few, and few ahead of many
    private static void yearsAnew() {
        BoreDesk desk = Desk.with("rock a;rock b;hole h at 1 1;");
        for (int turn = 0; turn < 3; turn++) {
            Desk.due(desk, "thirty", Desk.years(desk, "loop 1;".repeat(3) + "stop;".repeat(27) + "end;end;end;"), 30, 0);
            Desk.due(desk, "refused within a loop", Desk.years(desk, "loop 2;loop 2;loop 2;x"), -1, 9);
            Desk.due(desk, "thirty of them", desk.live(0), 4, 0);
            Desk.due(desk, "one", Desk.years(desk, "lay h b 2;"), 1, 0);
            Desk.due(desk, "one of them", desk.live(0), 1, 0);
            Desk.due(desk, "three within one another", Desk.years(desk, "loop 2;loop 2;loop 2;wear h 1;end;end;end;lay h a 9;"), 5, 0);
            Desk.due(desk, "all of them", desk.live(0), 1 + 2 + 4 + 8 + 1, 0);
            Desk.due("what is left", desk.hole(0, 3), 9);
            desk.wear(0, 99);
        }
    }

    // Promise 35: "7: a HOLE of it has not the BED" - whatever the TRIANGLE behind it has
    private static void trianglesSideBySide() {
        BoreDesk desk = Desk.with("rock a;rock b;unlike a b costs 99;hole g at 0 0 bed a thick 9 bed b thick 9;hole h at 9 0 bed a thick 9 bed b thick 9;"
                + "hole i at 0 9 bed a thick 9 bed b thick 9;hole j at 99 99 bed a thick 9;triangle g h i;triangle j h i;fault f from 9 0 to 0 9 throws 3;");
        Desk.due(desk, "one on the left, two on the line", desk.across(0), 0, 0);
        Desk.due(desk, "one on the right, two on the line", desk.across(1), 1, 0);
        BoreDesk other = Desk.with("rock a;rock b;unlike a b costs 99;hole g at 0 0 bed a thick 9 bed b thick 9;hole h at 9 0 bed a thick 9 bed b thick 9;"
                + "hole i at 0 9 bed a thick 9 bed b thick 9;hole j at 99 99 bed a thick 9;triangle g h i;triangle j h i;");
        Desk.fraction(other, "all of it have the bed, not the next one's first", other.topAt(1, 1, 1), 9, 1);
        Desk.fraction(other, "its tilt", other.tilt(1, 0, 0), 0, 1);
        Desk.due(other, "the next one has it not", other.topAt(1, 30, 30), false, 7);
        Desk.due(other, "its tilt can't be", other.tilt(1, 1, 0), false, 7);
    }

    // Part 3: "the first TRIANGLE that has it in it or on its edge" - points that are outside by the least there may be
    private static void justOutside() {
        // The long edge from 0 by 0 to 999 by 998 goes by 998 by 997 just above it, and by 1 by 1 just below.
        BoreDesk above = Desk.with("hole a at 0 0;hole b at 999 998;hole c at 0 999;triangle a b c;");
        Desk.due(above, "just outside", above.triangleAt(998, 997), -1, 6);
        Desk.due(above, "just inside", above.triangleAt(1, 1), 0, 0);
        Desk.due(above, "at its end", above.triangleAt(999, 998), 0, 0);
        BoreDesk below = Desk.with("hole a at 0 0;hole b at 999 998;hole c at 999 0;triangle a b c;");
        Desk.due(below, "just inside", below.triangleAt(998, 997), 0, 0);
        Desk.due(below, "just outside", below.triangleAt(1, 1), -1, 6);
        Desk.due(below, "at its beginning", below.triangleAt(0, 0), 0, 0);
        BoreDesk side = Desk.with("hole a at 0 0;hole b at 999 998;hole c at 998 997;fault f from 0 0 to 999 998 throws 5;triangle a b c;");
        Desk.due(side, "on the line", side.side(0, 1), 0, 0);
        Desk.due(side, "on the right by the least", side.side(0, 2), 1, 0);
        Desk.due(side, "across by the least", side.across(0), 1, 0);
    }

    // Terms: "NAME: a WORD of 1 to 8 letters" - of any letters, told apart by each
    private static void namesOfAllLetters() {
        String[][] alike = {{"a", "aa", "aaa", "aaaa", "aaaaa", "aaaaaa", "aaaaaaa", "aaaaaaaa"},
            {"z", "zz", "za", "az", "zzzzzzzz", "zzzzzzza", "azzzzzzz", "zazzzzzz"},
            {"ab", "ba", "bb", "b", "aab", "abb", "bab", "baa"},
            {"c", "bz", "by", "cz", "caa", "bza", "bzz", "czz"},
            {"abcdefgh", "abcdefg", "bcdefgh", "abcdefgi", "bbcdefgh", "abcdeffh", "abcdefhg", "hgfedcba"},
            {"topa", "topp", "topto", "atop", "atat", "bedbed", "endend", "stopstop"}};
        for (String[] names : alike) {
            StringBuilder text = new StringBuilder();
            for (int i = 0; i < 8; i++) {
                text.append("rock ").append(names[i]).append(" skip ").append(i + 10).append(';');
            }
            text.append("hole h at 0 0");
            for (int i = 7; i >= 0; i--) {
                text.append(" bed ").append(names[i]).append(" thick 1");
            }
            BoreDesk desk = Desk.with(text + ";");
            for (int i = 0; i < 8; i++) {
                Desk.due(desk, names[i], desk.layer(0, 7 - i, 0), i, 0);
            }
            for (int i = 0; i < 8; i++) {
                Desk.due(desk, "years with " + names[i], Desk.years(desk, "lay h " + names[i] + " 1;"), 1, 0);
                desk.live(0);
                Desk.due(desk, names[i] + " is laid", desk.layer(0, 0, 0), i, 0);
                desk.wear(0, 1);
            }
        }
        for (char letter = 'a'; letter <= 'z'; letter++) {
            BoreDesk desk = Desk.with("rock " + letter + ";rock " + letter + letter + ";hole " + letter + "xy at 1 1 bed " + letter + letter + " thick 1;");
            Desk.due(desk, "letter " + letter, desk.layer(0, 0, 0), 1, 0);
        }
    }
}
