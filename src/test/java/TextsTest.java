/** Promises 9 to 19: the tape, FIELDS, the text of YEARS, and what the FIELD tells. */
public final class TextsTest {
    private static final String GROUND = "rock clay;rock sand skip 2;rock lime skip 0;"
            + "unlike clay sand costs 3;"
            + "hole a at 0 0 bed clay thick 4 bed sand thick 2 bed lime thick 6;"
            + "hole b at 10 0 bed clay thick 3 bed clay thick 99;"
            + "hole c at 10 10;"
            + "triangle a b c;"
            + "fault f from 5 0 to 5 10 throws 7;"
            + "fault g from 0 0 to 9 9 throws 20;";
    private static final String HOLES = "rock clay;rock sand;hole a at 1 1;hole b at 2 2;hole c at 3 3;hole d at 3 4;"
            + "fault f from 0 0 to 1 1 throws 1;";

    public static void main(String[] args) {
        tape();
        fieldsTaken();
        fieldFaults();
        fieldMost();
        namesApart();
        fieldRefused();
        yearsTaken();
        yearsFaults();
        yearsMost();
        yearsRefused();
        yearsOneAfterAnother();
        faultTold();
        rocksAndHoles();
        layersAndSides();
        Desk.end();
    }

    private static void tape() {
        BoreDesk desk = new BoreDesk();
        for (int i = 1; i <= 45; i++) {
            Desk.due("feed", desk.feed(0x20202020, 0x0a0a0a0a, 0x20202020, 0x20202020, 0x20202020), 20 * i);
        }
        Desk.due("a tape that is full", desk.feed(0, 0, 0, 0, 0), -1);
        Desk.due(desk, "n 901", desk.field(901), -1, 1);
        Desk.due(desk, "n -1", desk.field(-1), -1, 1);
        Desk.due("still full", desk.feed(0, 0, 0, 0, 0), -1);
        Desk.due(desk, "blanks alone", desk.field(900), 0, 0);
        Desk.due("empty", desk.feed(0, 0, 0, 0, 0), 20);
        Desk.due(desk, "fewer bytes than the tape has", desk.field(0), 0, 0);
        Desk.due(desk, "empty, too", desk.field(1), -1, 1);
        // The highest byte of each int comes first: "rock a;", then a byte that is read no more.
        desk.feed(0x726f636b, 0x20613bff, 0, 0, 0);
        Desk.due(desk, "the highest first", desk.field(7), 0, 0);
        Desk.due("a rock", desk.told(0), 1);
        Desk.feed(desk, "rock a;!");
        Desk.due(desk, "with a fault", desk.field(8), -1, 9);
        Desk.due(desk, "empty behind a fault", desk.field(1), -1, 1);
    }

    private static void fieldsTaken() {
        taken("", 0);
        taken("rock a;", 0);
        taken(" \n rock\na\nskip\n99\n;\n", 0);
        taken("rock a skip 0001;rock b skip 0;", 0);
        taken("rock abcdefgh;rock abcdefg;", 0);
        taken("rock a;rock b;unlike a b costs 99;unlike b a costs 0;", 0);
        taken("hole a at 0 0;hole b at 999 999;hole c at 0 999;", 3);
        taken("rock r;hole h at 0 1 bed r thick 1 bed r thick 99;", 1);
        taken("hole h at0 1;", 1);
        taken("hole h at 0 1;fault f from 0 0 to 0 1 throws 999;", 1);
        taken("rock rocks;rock ends;rock b;hole hol at 1 2;", 1);
        taken("hole a at 0 0;hole b at 1 1;hole c at 1 2;triangle a b c;triangle c b a;", 3);
        taken(GROUND, 3);
    }

    private static void taken(String text, int holes) {
        BoreDesk desk = new BoreDesk();
        Desk.due(desk, "taken: " + text, Desk.field(desk, text), holes, 0);
        Desk.due("no fault in: " + text, desk.fault(0), 0);
        Desk.due("no place in: " + text, desk.fault(1), -1);
    }

    private static void fieldFaults() {
        fieldFault(1, "^Rock a;");
        fieldFault(1, "rock^-a;");
        fieldFault(1, "rock a^\t;");
        fieldFault(1, "rock a^\r;");
        fieldFault(1, "rock a skip ^12345;");
        fieldFault(1, "rock a skip ^0000001;");
        fieldFault(1, "rock ^12345;");
        fieldFault(1, "rock a; ^\u00e9");
        fieldFault(1, "rock a; ^\u0000");
        fieldFault(2, "^clay;");
        fieldFault(2, "^;");
        fieldFault(2, "rock^");
        fieldFault(2, "rock  ^");
        fieldFault(2, "rock a^");
        fieldFault(2, "rock a skip^");
        fieldFault(2, "rock ^12 skip;");
        fieldFault(2, "rock ^;");
        fieldFault(2, "rock ^abcdefghi;");
        fieldFault(2, "^rockabcdefghi;");
        fieldFault(2, "rock a ^b;");
        fieldFault(2, "rock a skip ^b;");
        fieldFault(2, "rock a skip 1 ^2;");
        fieldFault(2, "rock a skip 1 ^skip 1;");
        fieldFault(2, "rock a^<");
        fieldFault(2, "^bed a thick 1;");
        fieldFault(2, "^lay a a 1;");
        fieldFault(3, "rock a;rock ^a;");
        fieldFault(3, "rock a;hole ^a at 1 1;");
        fieldFault(3, "hole a at 1 1;rock ^a;");
        fieldFault(3, "hole a at 1 1;hole ^a at 1 2;");
        fieldFault(3, "rock f;fault ^f from 0 0 to 1 1 throws 1;");
        fieldFault(3, "fault f from 0 0 to 1 1 throws 1;rock ^f;");
        fieldFault(3, "unlike ^a b costs 3;");
        fieldFault(3, "rock a;unlike a ^b costs 3;");
        fieldFault(3, HOLES + "unlike ^a clay costs 3;");
        fieldFault(3, HOLES + "unlike clay ^f costs 3;");
        fieldFault(3, "hole h at 1 1 bed ^h thick 3;");
        fieldFault(3, HOLES + "hole h at 1 9 bed ^a thick 3;");
        fieldFault(3, HOLES + "triangle ^clay a b;");
        fieldFault(3, HOLES + "triangle a ^x b;");
        fieldFault(3, HOLES + "triangle a a ^x;");
        fieldFault(4, "rock a skip ^100;");
        fieldFault(4, "rock a;rock b;unlike a b costs ^100;");
        fieldFault(4, "hole a at ^1000 0;");
        fieldFault(4, "hole a at 0 ^1000;");
        fieldFault(4, HOLES + "hole h at 1 ^1000;");
        fieldFault(4, "rock r;hole h at 0 0 bed r thick ^0;");
        fieldFault(4, "rock r;hole h at 0 0 bed r thick ^100;");
        fieldFault(4, "fault f from ^1000 0 to 0 1 throws 0;");
        fieldFault(4, "fault f from 0 ^1000 to 0 1 throws 0;");
        fieldFault(4, "fault f from 0 0 to ^1000 1 throws 0;");
        fieldFault(4, "fault f from 0 0 to 0 ^1000 throws 0;");
        fieldFault(4, "fault f from 0 0 to 0 1 throws ^1000;");
        fieldFault(5, "rock a;unlike a ^a costs 3;");
        fieldFault(5, "hole a at 1 2;hole b at 1 ^2 bed");
        fieldFault(5, HOLES + "triangle a b ^c;");
        fieldFault(5, HOLES + "triangle a a ^d;");
        fieldFault(5, HOLES + "triangle a d ^a;");
        fieldFault(5, HOLES + "triangle d a ^a;");
        fieldFault(5, "fault f from 3 4 to 3 ^4 throws 1;");
        fieldFault(2, "hole ^at at 1 1;");
        fieldFault(2, "rock a ^rock b;");
        fieldFault(2, "rock a skip ^rock b;");
        fieldFault(2, "rock a;rock b;unlike a b ^rock c;");
        fieldFault(2, "rock a;rock b;unlike a b costs 3 ^rock c;");
        fieldFault(2, "hole a ^rock b;");
        fieldFault(2, "hole a at 1 1 ^rock b;");
        fieldFault(2, "rock r;hole a at 1 1 bed r ^rock b;");
        fieldFault(2, "rock r;hole a at 1 1 bed r^;");
        fieldFault(2, "^" + ";".repeat(900));
        fieldFault(2, "rock ^" + "h".repeat(895));
        fieldFault(1, "rock ^" + "1".repeat(895));
        fieldFault(2, "fault f ^rock b;");
        fieldFault(2, "fault f from 0 0 ^rock b;");
        fieldFault(2, "fault f from 0 0 to 1 1 ^rock b;");
        fieldFault(2, "fault f from 0 0 to 1 1 throws 5 ^rock b;");
        fieldFault(2, HOLES + "triangle a b d ^rock b;");
        fieldFault(2, "hole a ^1 1;");
        fieldFault(2, "hole a at 1^;");
        fieldFault(2, "hole a at 1 ^a;");
        fieldFault(2, "rock r;hole a at 1 1 bed r ^5;");
        fieldFault(2, "rock r;hole a at 1 1 bed r thick ^;");
        fieldFault(2, "rock r;hole a at 1 1 bed r thick 5 ^thick 5;");
        fieldFault(2, "fault f from 1 1 ^throws 1;");
        fieldFault(2, "fault f from 1 1 to 1 2^;");
        fieldFault(2, "fault f ^to 1 1 from 1 2 throws 1;");
        fieldFault(2, HOLES + "triangle a b^;");
        fieldFault(2, HOLES + "triangle a b d ^a;");
        for (String kept : ("rock skip unlike costs hole at bed thick triangle fault from to throws lay wear storm move "
                + "when deep has top loop end stop").split(" ")) {
            fieldFault(2, "rock ^" + kept + ";");
        }
    }

    private static void fieldMost() {
        StringBuilder rocks = new StringBuilder();
        StringBuilder holes = new StringBuilder();
        StringBuilder beds = new StringBuilder("rock r;hole h at 5 5");
        StringBuilder triangles = new StringBuilder("hole a at 0 0;hole b at 1 0;hole c at 0 1;");
        for (int i = 0; i < 8; i++) {
            rocks.append("rock ").append((char) ('a' + i)).append(';');
            beds.append(" bed r thick 1");
            triangles.append("triangle a b c;");
        }
        for (int i = 0; i < 6; i++) {
            holes.append("hole ").append((char) ('a' + i)).append(" at ").append(i).append(" 3;");
        }
        taken(rocks.toString(), 0);
        taken(holes.toString(), 6);
        taken(beds + ";", 1);
        taken(triangles.toString(), 3);
        String faults = "fault f from 0 0 to 1 1 throws 1;fault g from 0 0 to 1 1 throws 1;";
        taken(faults, 0);
        fieldFault(6, rocks + "^rock a;");
        fieldFault(6, rocks + "^rock");
        fieldFault(6, holes + "^hole a at 1 1;");
        fieldFault(6, beds + " ^bed r thick 1;");
        fieldFault(6, triangles + "^triangle x;");
        fieldFault(6, faults + "^fault h from 0 0 to 1 1 throws 1;");
    }

    private static void namesApart() {
        BoreDesk desk = Desk.with("rock ab skip 1;rock ba skip 2;rock b skip 3;rock aab skip 4;rock a skip 6;"
                + "rock abcdefgh skip 7;rock abcdefgi skip 8;rock bbcdefgh skip 9;"
                + "hole h at 0 0 bed bbcdefgh thick 1 bed abcdefgi thick 1 bed abcdefgh thick 1 bed a thick 1"
                + " bed aab thick 1 bed b thick 1 bed ba thick 1 bed ab thick 1;");
        for (int layer = 0; layer < 8; layer++) {
            Desk.due("names are apart", desk.layer(0, layer, 0), 7 - layer);
        }
        Desk.due("years know them, too", Desk.years(desk, "lay h ba 1;lay h abcdefgi 1;lay h aab 1;"), 3);
        desk.live(0);
        Desk.due("aab", desk.layer(0, 0, 0), 3);
        Desk.due("abcdefgi", desk.layer(0, 1, 0), 6);
        Desk.due("ba", desk.layer(0, 2, 0), 1);
    }

    /** Where ^ stands in the text is the fault's place. */
    private static void fieldFault(int kind, String marked) {
        int place = marked.indexOf('^');
        String text = marked.replace("^", "");
        BoreDesk desk = Desk.with("rock clay skip 3;hole z at 1 1;hole y at 2 1;");
        Desk.due(desk, "refused: " + text, Desk.field(desk, text), -1, 9);
        Desk.due("kind of " + marked, desk.fault(0), kind);
        Desk.due("place of " + marked, desk.fault(1), place);
        Desk.due("the old one stays", desk.told(1), 2);
        Desk.due("with its rock", desk.skip(0), 3);
    }

    private static void fieldRefused() {
        BoreDesk desk = Desk.with(GROUND);
        Desk.due("years", Desk.years(desk, "lay a clay 3;"), 1);
        desk.lay(0, 1, 9);
        Desk.due("refused", Desk.field(desk, "rock a"), -1);
        Desk.due("what became of it stays", desk.hole(0, 3), 21);
        Desk.due("years stay", desk.live(1), 1);
        Desk.due("in place of the old one", Desk.field(desk, "rock a;hole b at 3 4;"), 1);
        Desk.due("rocks", desk.told(0), 1);
        Desk.due("holes", desk.told(1), 1);
        Desk.due("triangles", desk.told(2), 0);
        Desk.due("faults", desk.told(3), 0);
        Desk.due("its cost", desk.skip(0), 5);
        Desk.due("x", desk.hole(0, 0), 3);
        Desk.due("no layers", desk.hole(0, 2), 0);
        Desk.due(desk, "there are no years", desk.live(1), -1, 6);
    }

    private static void yearsTaken() {
        yearsOf("", 0);
        yearsOf(" \n", 0);
        yearsOf("stop;", 1);
        yearsOf("lay a clay 1;lay a clay 99;wear b 99;storm 1;storm 99;move f 99;", 6);
        yearsOf("when deep a<0;end;when deep a > 9999;end;when deep a\n=5;end;", 3);
        yearsOf("when has a clay;lay b clay 3;end;when top a clay;stop;end;", 4);
        yearsOf("loop 1;loop 99;when has a clay;end;end;end;loop 3;end;", 4);
        StringBuilder most = new StringBuilder();
        for (int i = 0; i < 30; i++) {
            most.append("storm 1;");
        }
        yearsOf(most.toString(), 30);
    }

    private static void yearsOneAfterAnother() {
        BoreDesk desk = Desk.with(HOLES);
        for (int i = 1; i <= 6; i++) {
            Desk.due(desk, "years anew", Desk.years(desk, "lay a clay " + i + ";lay b sand 1;"), 2, 0);
            Desk.due(desk, "steps of these alone", desk.live(0), 2, 0);
            Desk.due("all of a", desk.hole(0, 3), i * (i + 1) / 2);
            Desk.due("all of b", desk.hole(1, 3), i);
        }
    }

    private static void yearsOf(String text, int steps) {
        BoreDesk desk = Desk.with(HOLES);
        Desk.due(desk, "years: " + text, Desk.years(desk, text), steps, 0);
        Desk.due("no fault", desk.fault(0), 0);
        Desk.due("no place", desk.fault(1), -1);
        Desk.due("there are years: " + text, desk.live(0) >= 0, true);
    }

    private static void yearsFaults() {
        yearsFault(1, "stop^:");
        yearsFault(1, "storm ^00001;");
        yearsFault(2, "^clay;");
        yearsFault(2, "^end;");
        yearsFault(2, "loop 2;end;^end;");
        yearsFault(2, "loop 2;^");
        yearsFault(2, "loop 2;stop; \n^");
        yearsFault(2, "loop 2;end^");
        yearsFault(2, "loop 2;end^ stop;".replace("^ ", " ^"));
        yearsFault(2, "stop ^stop;");
        yearsFault(2, "when ^a < 5;end;");
        yearsFault(2, "when deep a ^5;end;");
        yearsFault(2, "when deep a < ^a;end;");
        yearsFault(2, "when deep a^;end;");
        yearsFault(2, "when has a^;end;");
        yearsFault(2, "lay a ^5;");
        yearsFault(2, "lay ^end clay 5;");
        yearsFault(2, "lay ^abcdefghi clay 5;");
        yearsFault(2, "lay a clay^");
        yearsFault(2, "storm ^;");
        yearsFault(2, "^rock a;");
        yearsFault(2, "^deep a < 5;");
        yearsFault(3, "lay ^x clay 5;");
        yearsFault(3, "lay ^clay a 5;");
        yearsFault(3, "lay a ^b 5;");
        yearsFault(3, "lay a ^f 5;");
        yearsFault(3, "wear ^f 5;");
        yearsFault(3, "move ^a 5;");
        yearsFault(3, "when deep ^clay < 5;end;");
        yearsFault(3, "when has ^clay clay;end;");
        yearsFault(3, "when has a ^a;end;");
        yearsFault(3, "when top a ^f;end;");
        yearsFault(4, "lay a clay ^0;");
        yearsFault(4, "lay a clay ^100;");
        yearsFault(4, "wear a ^0;");
        yearsFault(4, "wear a ^100;");
        yearsFault(4, "storm ^0;");
        yearsFault(4, "storm ^100;");
        yearsFault(4, "move f ^0;");
        yearsFault(4, "move f ^100;");
        yearsFault(4, "loop ^0;end;");
        yearsFault(4, "loop ^100;end;");
        yearsFault(7, "loop 1;loop 1;loop 1;^loop 1;end;end;end;end;");
        yearsFault(7, "loop 1;when has a clay;loop 1;^when has");
        yearsFault(2, "loop 1;loop 1;loop 1;end;loop 1;end;^");
    }

    private static void yearsMost() {
        StringBuilder thirty = new StringBuilder();
        for (int i = 0; i < 15; i++) {
            thirty.append("loop 1;end;stop;");
        }
        yearsOf(thirty.toString(), 30);
        yearsFault(6, thirty + "^stop;");
        StringBuilder deep = new StringBuilder();
        for (int i = 0; i < 27; i++) {
            deep.append("stop;");
        }
        deep.append("loop 1;loop 1;loop 1;");
        yearsFault(6, deep + "^loop 1;");
        yearsFault(6, deep + "^stop;");
        yearsFault(2, deep + "end;end;end;^end;");
        yearsOf(deep + "end;end;end;", 30);
    }

    private static void yearsFault(int kind, String marked) {
        int place = marked.indexOf('^');
        String text = marked.replace("^", "");
        BoreDesk desk = Desk.with(HOLES);
        Desk.due("years", Desk.years(desk, "lay a clay 3;lay a clay 4;"), 2);
        Desk.due(desk, "years refused: " + text, Desk.years(desk, text), -1, 9);
        Desk.due("kind of " + marked, desk.fault(0), kind);
        Desk.due("place of " + marked, desk.fault(1), place);
        Desk.due(desk, "an empty tape", desk.years(1), -1, 1);
        Desk.due("the old ones stay", desk.live(0), 2);
        Desk.due("and do what they did", desk.hole(0, 3), 7);
    }

    private static void yearsRefused() {
        BoreDesk desk = Desk.with(HOLES);
        int many = Desk.feed(desk, "stop;" + " ".repeat(340));
        Desk.due("fed", many, 345);
        Desk.due(desk, "n -1", desk.years(-1), -1, 1);
        Desk.due(desk, "n 301", desk.years(301), -1, 1);
        Desk.due(desk, "more than the tape has", desk.years(361), -1, 1);
        Desk.due(desk, "no years yet", desk.live(0), -1, 6);
        Desk.due(desk, "n 300", desk.years(300), 1, 0);
        Desk.due(desk, "an empty tape", desk.years(1), -1, 1);
        Desk.due(desk, "the years stay", desk.live(0), 1, 0);
    }

    private static void faultTold() {
        BoreDesk desk = new BoreDesk();
        Desk.due("ahead of any", desk.fault(0), -1);
        Desk.due("ahead of any, 1", desk.fault(1), -1);
        desk.field(5);
        Desk.due("status 1 is none", desk.fault(0), -1);
        Desk.field(desk, "rock ;");
        Desk.due("kind", desk.fault(0), 2);
        Desk.due("place", desk.fault(1), 5);
        Desk.due("-1", desk.fault(-1), -1);
        Desk.due("2", desk.fault(2), -1);
        desk.field(5);
        desk.years(301);
        Desk.due("stays over status 1", desk.fault(0), 2);
        Desk.due("stays over status 1, place", desk.fault(1), 5);
        Desk.years(desk, "stop;");
        Desk.due("none", desk.fault(0), 0);
        Desk.due("no place", desk.fault(1), -1);
        Desk.years(desk, "stop;12");
        Desk.due("of years", desk.fault(0), 2);
        Desk.due("of years, place", desk.fault(1), 5);
    }

    private static void rocksAndHoles() {
        BoreDesk desk = Desk.with(GROUND);
        int[] told = {3, 3, 1, 2};
        for (int what = 0; what < 4; what++) {
            Desk.due(desk, "told " + what, desk.told(what), told[what], 0);
        }
        Desk.due(desk, "told -1", desk.told(-1), -1, 1);
        Desk.due(desk, "told 4", desk.told(4), -1, 1);
        Desk.due(desk, "skip 0", desk.skip(0), 5, 0);
        Desk.due(desk, "skip 1", desk.skip(1), 2, 0);
        Desk.due(desk, "skip 2", desk.skip(2), 0, 0);
        Desk.due(desk, "skip -1", desk.skip(-1), -1, 1);
        Desk.due(desk, "skip 3", desk.skip(3), -1, 1);
        Desk.due(desk, "unlike 0 1", desk.unlike(0, 1), 3, 0);
        Desk.due(desk, "unlike 1 0", desk.unlike(1, 0), 3, 0);
        Desk.due(desk, "unlike 0 2", desk.unlike(0, 2), 9, 0);
        Desk.due(desk, "unlike 2 2", desk.unlike(2, 2), 0, 0);
        Desk.due(desk, "unlike -1", desk.unlike(-1, 0), -1, 1);
        Desk.due(desk, "unlike 3", desk.unlike(0, 3), -1, 1);
        BoreDesk twice = Desk.with("rock a;rock b;unlike a b costs 4;unlike b a costs 7;");
        Desk.due("told twice: the latest", twice.unlike(0, 1), 7);
        Desk.due("either way", twice.unlike(1, 0), 7);
        int[][] holes = {{0, 0, 3, 12, 0}, {10, 0, 2, 102, 27}, {10, 10, 0, 0, 7}};
        for (int hole = 0; hole < 3; hole++) {
            for (int what = 0; what < 5; what++) {
                Desk.due(desk, "hole " + hole + " " + what, desk.hole(hole, what), holes[hole][what], 0);
            }
        }
        Desk.due(desk, "hole -1", desk.hole(-1, 0), -1, 1);
        Desk.due(desk, "hole 3", desk.hole(3, 0), -1, 1);
        Desk.due(desk, "what -1", desk.hole(0, -1), -1, 1);
        Desk.due(desk, "what 5", desk.hole(0, 5), -1, 1);
    }

    private static void layersAndSides() {
        BoreDesk desk = Desk.with(GROUND);
        int[][] layers = {{0, 4, 0}, {1, 2, 4}, {2, 6, 6}};
        for (int layer = 0; layer < 3; layer++) {
            for (int what = 0; what < 3; what++) {
                Desk.due(desk, "layer " + layer + " " + what, desk.layer(0, layer, what), layers[layer][what], 0);
            }
        }
        Desk.due(desk, "thrown down", desk.layer(1, 1, 2), 30, 0);
        Desk.due(desk, "layer -1", desk.layer(0, -1, 0), -1, 1);
        Desk.due(desk, "layer 3", desk.layer(0, 3, 0), -1, 1);
        Desk.due(desk, "no layers", desk.layer(2, 0, 0), -1, 1);
        Desk.due(desk, "hole 3", desk.layer(3, 0, 0), -1, 1);
        Desk.due(desk, "what 3", desk.layer(0, 0, 3), -1, 1);
        Desk.due(desk, "what -1", desk.layer(0, 0, -1), -1, 1);
        int[][] depths = {{0, 0}, {3, 0}, {4, 1}, {5, 1}, {6, 2}, {11, 2}};
        for (int[] depth : depths) {
            Desk.due(desk, "depth " + depth[0], desk.layerAt(0, depth[0]), depth[1], 0);
        }
        Desk.due(desk, "below all", desk.layerAt(0, 12), -1, 6);
        Desk.due(desk, "far below all", desk.layerAt(1, Integer.MAX_VALUE), -1, 6);
        Desk.due(desk, "above all", desk.layerAt(1, 26), -1, 6);
        Desk.due(desk, "thrown", desk.layerAt(1, 27), 0, 0);
        Desk.due(desk, "thrown, the second", desk.layerAt(1, 30), 1, 0);
        Desk.due(desk, "thrown, last", desk.layerAt(1, 128), 1, 0);
        Desk.due(desk, "thrown, below all", desk.layerAt(1, 129), -1, 6);
        Desk.due(desk, "depth -1", desk.layerAt(0, -1), -1, 1);
        Desk.due(desk, "hole 3", desk.layerAt(3, 0), -1, 1);
        int[][] sides = {{0, 1, 1}, {0, 1, 0}};
        for (int fault = 0; fault < 2; fault++) {
            for (int hole = 0; hole < 3; hole++) {
                Desk.due(desk, "side " + fault + " " + hole, desk.side(fault, hole), sides[fault][hole], 0);
            }
        }
        Desk.due(desk, "fault 2", desk.side(2, 0), -1, 1);
        Desk.due(desk, "fault -1", desk.side(-1, 0), -1, 1);
        Desk.due(desk, "side hole 3", desk.side(0, 3), -1, 1);
        BoreDesk turned = Desk.with("hole a at 0 0;hole b at 10 0;fault f from 5 10 to 5 0 throws 7;");
        Desk.due("looking down, the right is at less x", turned.side(0, 0), 1);
        Desk.due("looking down, the left", turned.side(0, 1), 0);
        BoreDesk on = Desk.with("hole a at 5 5;hole b at 900 900;fault f from 1 1 to 2 2 throws 7;");
        Desk.due("on the line", on.side(0, 0), 0);
        Desk.due("on the line, far off", on.side(0, 1), 0);
    }
}
