import java.util.Arrays;

/** Bounds that the document names for LOGS: promises 44 to 50. */
public final class BoundsOfLogsTest {
    private static final int LEAST = Integer.MIN_VALUE;
    private static final int MOST = Integer.MAX_VALUE;
    private static final int[] NO_TRAY = {-1, 4, LEAST, MOST};
    private static final int[] NOT_SO_MANY = {-1, 0, 61, LEAST, MOST};
    private static final int[] NO_HOLE = {-1, 4, LEAST, MOST};

    /** A call of a log: by its tray, and how many numbers. */
    private interface LogCall {
        long ask(BoreDesk desk, int tray, int many);
    }

    public static void main(String[] args) {
        picksRefused();
        picksBySoMany();
        picksMarks();
        picksWindows();
        picksNumbers();
        picksFirstPlace();
        picksAtTheMark();
        picksBesideNone();
        picksNextOnes();
        picksNoneAndTheEnd();
        pickAt();
        pickAtLatest();
        fillRefused();
        fillBounds();
        fillAtTheBeginning();
        runsRefused();
        runsBounds();
        agreesRefused();
        agreesNumbers();
        codedUnitByUnit();
        noneInEachSort();
        agreesAtTheFoot();
        agreesBelowWhatIsGone();
        shiftRefused();
        shiftWhat();
        shiftFarthest();
        shiftTies();
        shiftOfMinusOne();
        likestRefused();
        likestOfSeveral();
        likestWithoutHoles();
        Desk.end();
    }

    /** STATUS 1, 2, 3, 5 of all calls of a log, and that they are asked in this order. */
    private static void refusedAlike(String what, LogCall call, long tooMuch) {
        for (int tray : NO_TRAY) {
            Picture.refused(what + " tray " + tray, desk -> call.ask(desk, tray, 1), 1);
        }
        for (int many : NOT_SO_MANY) {
            Picture.refused(what + " many " + many, desk -> call.ask(desk, 1, many), 1);
            Picture.refused(what + " 1 ahead of 2", desk -> call.ask(desk, 3, many), 1);
            Picture.refused(what + " 1 ahead of 5", desk -> call.ask(desk, 2, many), 1);
        }
        Picture.refused(what + " missing", desk -> call.ask(desk, 3, 1), 2);
        Picture.refused(what + " 2 ahead of 3", desk -> call.ask(desk, 3, 60), 2);
        Picture.refused(what + " one too few", desk -> call.ask(desk, 0, 5), 3);
        Picture.refused(what + " sixty of a few", desk -> call.ask(desk, 0, 60), 3);
        Picture.refused(what + " 3 ahead of 5", desk -> call.ask(desk, 2, 3), 3);
        Picture.refused(what + " below -1", desk -> call.ask(desk, 2, 1), 5);
        for (long wrong : new long[] {-2, Long.MIN_VALUE, tooMuch, 4294967296L, Long.MAX_VALUE}) {
            BoreDesk desk = Picture.full();
            Desk.write(desk, 3, 0, wrong, 0);
            Desk.due(desk, what + " of " + wrong, call.ask(desk, 3, 2), -1, 5);
            Desk.due(desk, what + " ahead of " + wrong, call.ask(desk, 3, 1) >= 0, true, 0);
        }
        BoreDesk none = new BoreDesk();
        none.tray(0, 0, 0);
        Desk.due("a row of none has too few", call.ask(none, 0, 1), -1);
    }

    private static BoreDesk with(long... numbers) {
        BoreDesk desk = new BoreDesk();
        Desk.write(desk, 0, numbers);
        return desk;
    }

    // Promise 44: "(1; 2; 3; 5: below -1, above 999,999; asked in this order)"
    private static void picksRefused() {
        refusedAlike("picks", (desk, tray, many) -> desk.picks(tray, many, 3, 1), 1000000);
        Picture.refused("mark ahead of 2", desk -> desk.picks(3, 1, -1, 1), 1);
        Picture.refused("window ahead of 3", desk -> desk.picks(0, 60, 3, 10), 1);
        Picture.refused("window ahead of 5", desk -> desk.picks(2, 1, 3, 0), 1);
    }

    // Promise 44: "How many PICKS the first so many (1 to 60) numbers of a TRAY have"
    private static void picksBySoMany() {
        long[] log = new long[60];
        for (int k = 0; k < 60; k++) {
            log[k] = k % 2;
        }
        BoreDesk desk = with(log);
        Desk.due(desk, "one number", desk.picks(0, 1, 1, 1), 0, 0);
        Desk.due(desk, "two numbers", desk.picks(0, 2, 1, 1), 1, 0);
        Desk.due(desk, "three numbers", desk.picks(0, 3, 1, 1), 1, 0);
        Desk.due(desk, "sixty numbers", desk.picks(0, 60, 1, 1), 30, 0);
        Desk.due(desk, "the last pick", desk.pickAt(29), 59, 0);
        Desk.due(desk, "no more", desk.pickAt(30), -1, 6);
    }

    // Promise 44: "by a mark (0 to 999,999)"
    private static void picksMarks() {
        for (int mark : new int[] {-1, 1000000, LEAST, MOST}) {
            Picture.refused("mark " + mark, desk -> desk.picks(1, 6, mark, 1), 1);
        }
        BoreDesk desk = with(0, 5, 999998, 999999, -1, 0, 1);
        Desk.due(desk, "mark 0: none is below it", desk.picks(0, 7, 0, 1), 0, 0);
        Desk.due(desk, "mark 1", desk.picks(0, 7, 1, 1), 2, 0);
        Desk.due(desk, "mark 999,999", desk.picks(0, 7, 999999, 1), 1, 0);
        Desk.due(desk, "its place", desk.pickAt(0), 3, 0);
    }

    // Promise 44: "a window"
    // Part 3: "PICKS of a mark, by a window w (1 to 9)"
    private static void picksWindows() {
        for (int window : new int[] {-1, 0, 10, LEAST, MOST}) {
            Picture.refused("window " + window, desk -> desk.picks(1, 6, 3, window), 1);
        }
        for (int far = 1; far <= 10; far++) {
            // The one so far behind the pick is below the mark.
            long[] log = new long[20];
            Arrays.fill(log, 7);
            log[0] = 0;
            log[1 + far] = 0;
            Arrays.fill(log, 2 + far, 20, 0);
            BoreDesk desk = with(log);
            for (int window = 1; window <= 9; window++) {
                Desk.due(desk, far + " behind, window " + window, desk.picks(0, 20, 7, window), window <= far ? 1 : 0, 0);
            }
        }
    }

    // Promise 44: "5: below -1, above 999,999"
    private static void picksNumbers() {
        BoreDesk desk = with(-1, 0, 999999, -2);
        Desk.due(desk, "-1, 0, 999,999", desk.picks(0, 3, 1, 1), 1, 0);
        Desk.due(desk, "-2", desk.picks(0, 4, 1, 1), -1, 5);
        desk.write(0, 3, 1000000);
        Desk.due(desk, "1,000,000", desk.picks(0, 4, 1, 1), -1, 5);
        desk.write(0, 3, 999999);
        Desk.due(desk, "999,999", desk.picks(0, 4, 1, 1), 1, 0);
    }

    // Part 3: "places k from 1 on"
    private static void picksFirstPlace() {
        BoreDesk desk = with(9, 9, 1, 9);
        Desk.due(desk, "place 0 is none, nor is 1", desk.picks(0, 4, 5, 1), 1, 0);
        Desk.due(desk, "place 3", desk.pickAt(0), 3, 0);
        BoreDesk first = with(1, 9);
        Desk.due(first, "place 1", first.picks(0, 2, 5, 1), 1, 0);
        Desk.due(first, "place 1 it is", first.pickAt(0), 1, 0);
    }

    // Part 3: "such that number k is the mark or more, the one ahead of it is below it"
    private static void picksAtTheMark() {
        int[][] due = {{4, 5, 1}, {4, 6, 1}, {4, 4, 0}, {5, 5, 0}, {5, 6, 0}, {0, 5, 1}, {0, 4, 0}, {3, 4, 0}, {6, 5, 0}, {5, 9, 0}};
        for (int[] row : due) {
            BoreDesk desk = with(row[0], row[1]);
            Desk.due(desk, row[0] + " " + row[1] + " by 5", desk.picks(0, 2, 5, 1), row[2], 0);
        }
    }

    // Part 3: "(neither is none)"
    private static void picksBesideNone() {
        BoreDesk ahead = with(0, -1, 9, -1, -1, 9);
        Desk.due(ahead, "the one ahead is none", ahead.picks(0, 6, 5, 1), 0, 0);
        BoreDesk itself = with(0, -1, 0, -1);
        Desk.due(itself, "it is none", itself.picks(0, 4, 0, 1), 0, 0);
        BoreDesk zero = with(-1, 0, -1, 0);
        Desk.due(zero, "0 behind none by a mark of 0", zero.picks(0, 4, 0, 1), 0, 0);
    }

    // Part 3: "and of the next w less 1 none is below it"
    private static void picksNextOnes() {
        BoreDesk desk = with(0, 9, 5, 4);
        Desk.due(desk, "the next is the mark", desk.picks(0, 4, 5, 2), 1, 0);
        Desk.due(desk, "the one behind is below it", desk.picks(0, 4, 5, 3), 0, 0);
        BoreDesk below = with(0, 9, 4, 9);
        Desk.due(below, "w 1 asks for no more", below.picks(0, 3, 5, 1), 1, 0);
        Desk.due(below, "w 2 asks for one", below.picks(0, 3, 5, 2), 0, 0);
        Desk.due(below, "the last has none behind it", below.picks(0, 4, 5, 2), 1, 0);
        Desk.due(below, "it is the last", below.pickAt(0), 3, 0);
    }

    // Part 3: "(none at all, and the end, do not matter)"
    private static void picksNoneAndTheEnd() {
        BoreDesk none = with(0, 9, -1, -1, -1, -1, -1, -1, -1, -1);
        Desk.due(none, "none alone behind it", none.picks(0, 10, 5, 9), 1, 0);
        none.write(0, 9, 4);
        Desk.due(none, "the eighth behind it is below", none.picks(0, 10, 5, 9), 0, 0);
        Desk.due(none, "w less by one", none.picks(0, 10, 5, 8), 1, 0);
        Desk.due(none, "behind the first so many", none.picks(0, 9, 5, 9), 1, 0);
        BoreDesk end = with(0, 9);
        Desk.due(end, "the end", end.picks(0, 2, 5, 9), 1, 0);
    }

    // Promise 45: "The k-th of the latest picks() with STATUS 0 (6: none such)."
    private static void pickAt() {
        BoreDesk fresh = new BoreDesk();
        Desk.due(fresh, "none yet", fresh.pickAt(0), -1, 6);
        for (int k : new int[] {-1, 2, 60, LEAST, MOST}) {
            Picture.refused("pick " + k, desk -> desk.pickAt(k), 6);
        }
        BoreDesk desk = Picture.full();
        Desk.due(desk, "the first", desk.pickAt(0), 1, 0);
        Desk.due(desk, "the last", desk.pickAt(1), 5, 0);
    }

    // Promise 45: "of the latest picks() with STATUS 0"
    private static void pickAtLatest() {
        BoreDesk desk = with(0, 9, 0, 9);
        desk.picks(0, 4, 5, 1);
        desk.picks(0, 4, 5, 10);
        desk.picks(1, 4, 5, 1);
        desk.picks(0, 5, 5, 1);
        desk.write(0, 0, -2);
        desk.picks(0, 4, 5, 1);
        Desk.due(desk, "others do not count", desk.pickAt(1), 3, 0);
        desk.tray(0, 0, 0);
        desk.field(0);
        Desk.due(desk, "whatever the tray is now", desk.pickAt(1), 3, 0);
        desk.tray(0, 0, 1);
        Desk.due(desk, "a later one", desk.picks(0, 1, 5, 1), 0, 0);
        Desk.due(desk, "has none", desk.pickAt(0), -1, 6);
    }

    // Promise 46: "FILLED: how many were none and are not any more (1; 2; 3; 5)."
    private static void fillRefused() {
        refusedAlike("fill", (desk, tray, many) -> desk.fill(tray, many), 1000000);
        BoreDesk desk = with(3, -1, -2);
        Desk.due(desk, "one that can't be", desk.fill(0, 3), -1, 5);
        Desk.due("nothing is filled", desk.read(0, 1), -1);
    }

    // Promise 46: "how many were none and are not any more" - of one number, of sixty, in each sort
    private static void fillBounds() {
        for (int sort = 0; sort <= 3; sort++) {
            BoreDesk desk = new BoreDesk();
            desk.tray(1, sort, 60);
            desk.write(1, 0, 127);
            for (int k = 1; k < 60; k++) {
                desk.write(1, k, -1);
            }
            Desk.due(desk, "one number", desk.fill(1, 1), 0, 0);
            Desk.due(desk, "the second", desk.fill(1, 2), 1, 0);
            Desk.due("the third is none yet", desk.read(1, 2), -1);
            Desk.due(desk, "sixty", desk.fill(1, 60), 58, 0);
            Desk.due("the last", desk.read(1, 59), 127);
            Desk.due(desk, "nothing more", desk.fill(1, 60), 0, 0);
        }
        BoreDesk most = with(999999, -1);
        Desk.due(most, "999,999", most.fill(0, 2), 1, 0);
        Desk.due("filled", most.read(0, 1), 999999);
    }

    // Part 3: "FILLED: each none becomes the number ahead of it (none at the beginning stay)."
    private static void fillAtTheBeginning() {
        BoreDesk desk = with(-1, -1, 0, -1, 5, -1, -1);
        Desk.due(desk, "two stay", desk.fill(0, 7), 3, 0);
        long[] due = {-1, -1, 0, 0, 5, 5, 5};
        for (int k = 0; k < 7; k++) {
            Desk.due(desk, "filled " + k, desk.read(0, k), due[k], 0);
        }
        BoreDesk none = with(-1, -1, -1);
        Desk.due(none, "all stay", none.fill(0, 3), 0, 0);
        Desk.due(none, "none it is", none.read(0, 2), -1, 0);
        BoreDesk part = with(4, -1, -1);
        Desk.due(part, "so many alone", part.fill(0, 2), 1, 0);
        Desk.due("the one behind stays", part.read(0, 2), -1);
    }

    // Promise 47: "RUNS (1; 2; 3; 5)."
    private static void runsRefused() {
        refusedAlike("runs", (desk, tray, many) -> desk.runs(tray, many), 1000000);
    }

    // Part 3: "RUNS: how many rows of alike numbers, one behind the other."
    private static void runsBounds() {
        long[] log = new long[60];
        BoreDesk alike = with(log);
        Desk.due(alike, "one number", alike.runs(0, 1), 1, 0);
        Desk.due(alike, "sixty alike", alike.runs(0, 60), 1, 0);
        for (int k = 0; k < 60; k++) {
            log[k] = k % 2 == 0 ? 999999 : -1;
        }
        BoreDesk unlike = with(log);
        Desk.due(unlike, "sixty unlike ones", unlike.runs(0, 60), 60, 0);
        BoreDesk again = with(3, 3, 4, 3, 3);
        Desk.due(again, "a number comes again", again.runs(0, 5), 3, 0);
        Desk.due(again, "so many alone", again.runs(0, 2), 1, 0);
    }

    // Promise 48: "(1; 2; 3; 5: no ROCK, not -1; asked in this order)"
    private static void agreesRefused() {
        refusedAlike("agrees", (desk, tray, many) -> desk.agrees(tray, many, 0), 3);
        for (int hole : NO_HOLE) {
            Picture.refused("agrees with hole " + hole, desk -> desk.agrees(0, 3, hole), 1);
            Picture.refused("hole ahead of 2", desk -> desk.agrees(3, 3, hole), 1);
            Picture.refused("hole ahead of 3", desk -> desk.agrees(0, 60, hole), 1);
            Picture.refused("hole ahead of 5", desk -> desk.agrees(2, 1, hole), 1);
        }
    }

    // Promise 48: "AGREES of a CODED LOG of so many numbers with a HOLE (1; 2; 3; 5: no ROCK, not -1"
    private static void agreesNumbers() {
        BoreDesk desk = Desk.with(Picture.FIELD);
        Desk.write(desk, 0, -1, 0, 2, 3);
        Desk.due(desk, "-1, the first and the last rock", desk.agrees(0, 3, 0), 1, 0);
        Desk.due(desk, "one behind the last rock", desk.agrees(0, 4, 0), -1, 5);
        desk.write(0, 3, -2);
        Desk.due(desk, "-2", desk.agrees(0, 4, 0), -1, 5);
        BoreDesk bare = Desk.with("hole h at 1 1;");
        Desk.write(bare, 0, -1, 0);
        Desk.due(bare, "without rocks -1 alone", bare.agrees(0, 1, 0), 0, 0);
        Desk.due(bare, "without rocks 0", bare.agrees(0, 2, 0), -1, 5);
    }

    // Part 3: "A CODED LOG has ROCKS' numbers, one for each unit of THICK from the top down."
    private static void codedUnitByUnit() {
        BoreDesk desk = Desk.with("rock a;rock b;rock c;rock d;rock e;rock f;rock g;rock h;"
                + "hole o at 5 0 bed h thick 1 bed a thick 1 bed g thick 2 bed b thick 3;");
        long[] log = {7, 0, 6, 6, 1, 1, 1};
        Desk.write(desk, 0, log);
        for (int many = 1; many <= 7; many++) {
            Desk.due(desk, "units: " + many, desk.agrees(0, many, 0), many, 0);
        }
        for (int k = 0; k < 7; k++) {
            desk.write(0, k, 3);
            Desk.due(desk, "all but unit " + k, desk.agrees(0, 7, 0), 6, 0);
            desk.write(0, k, log[k]);
        }
        desk.write(0, 0, 8);
        Desk.due(desk, "a ninth rock", desk.agrees(0, 7, 0), -1, 5);
    }

    // Part 3: "A LOG is a row of numbers in a TRAY, -1 is none."
    private static void noneInEachSort() {
        for (int sort = 0; sort <= 3; sort++) {
            BoreDesk desk = new BoreDesk();
            desk.tray(0, sort, 4);
            desk.write(0, 0, 1);
            desk.write(0, 1, -1);
            desk.write(0, 2, 9);
            Desk.due(desk, "none ahead of 9, sort " + sort, desk.picks(0, 3, 5, 1), 0, 0);
            Desk.due(desk, "none is filled, sort " + sort, desk.fill(0, 3), 1, 0);
            Desk.due(desk, "1 ahead of 9, sort " + sort, desk.picks(0, 3, 5, 1), 1, 0);
            desk.write(0, 3, -2);
            Desk.due(desk, "-2 is no none, sort " + sort, desk.fill(0, 4), -1, 5);
        }
    }

    // Part 3: "AGREES with a HOLE: at how many places k (0 ..) its number is the ROCK of the LAYER that has the unit k there."
    private static void agreesAtTheFoot() {
        BoreDesk desk = Desk.with("rock a;rock b;hole g at 5 0 bed a thick 2 bed b thick 1;hole h at 1 1;"
                + "fault f from 1 0 to 1 9 throws 40;");
        Desk.write(desk, 0, 0, 0, 1, 1);
        Desk.due(desk, "the last unit", desk.agrees(0, 3, 0), 3, 0);
        Desk.due(desk, "behind the last unit", desk.agrees(0, 4, 0), 3, 0);
        Desk.due(desk, "the first unit alone", desk.agrees(0, 1, 0), 1, 0);
        Desk.due(desk, "no layers", desk.agrees(0, 4, 1), 0, 0);
        Desk.write(desk, 1, -1, -1, -1, -1);
        Desk.due(desk, "none agrees nowhere", desk.agrees(1, 4, 0), 0, 0);
        BoreDesk deep = Desk.with("rock a;hole g at 5 0 bed a thick 99;");
        deep.tray(0, 0, 60);
        Desk.due(deep, "sixty", deep.agrees(0, 60, 0), 60, 0);
    }

    // Part 3: "its number is the ROCK of the LAYER that has the unit k there." - of none below the lowest LAYER
    private static void agreesBelowWhatIsGone() {
        BoreDesk desk = Desk.with("rock a;rock b;hole g at 0 0 bed a thick 4 bed b thick 2;");
        desk.wear(0, 4);
        Desk.write(desk, 0, 1, 1, 1, 1);
        Desk.due(desk, "b is told once", desk.agrees(0, 4, 0), 2, 0);
        Desk.due(desk, "and drawn once", desk.draws(0, 0), 2, 0);
        BoreDesk twelve = Desk.with("rock a;rock b;hole g at 0 0;hole h at 1 1 bed a thick 9;");
        for (int layer = 0; layer < 12; layer++) {
            twelve.lay(0, layer % 2, 1);
        }
        twelve.tray(0, 0, 20);
        Desk.due(twelve, "twelve units, none of the next hole's", twelve.draws(0, 0), 12, 0);
        Desk.due(twelve, "0s behind them agree with nothing", twelve.agrees(0, 20, 0), 12, 0);
    }

    // Promise 49: "(1; 2; 3; 5)"
    private static void shiftRefused() {
        refusedAlike("shift", (desk, tray, many) -> {
            long answer = desk.shift(tray, many, 0, 1);
            return answer;
        }, 3);
        for (int hole : NO_HOLE) {
            Picture.refused("shift by hole " + hole, desk -> desk.shift(0, 3, hole, 0), 1);
            Picture.refused("hole ahead of 2", desk -> desk.shift(3, 3, hole, 0), 1);
        }
        for (int what : new int[] {-1, 2, LEAST, MOST}) {
            Picture.refused("shift's what " + what, desk -> desk.shift(0, 3, 0, what), 1);
            Picture.refused("what ahead of 5", desk -> desk.shift(2, 1, 0, what), 1);
        }
    }

    // Promise 49: "SHIFT, what 0: by how many, 1: at how many places it AGREES then"
    private static void shiftWhat() {
        BoreDesk desk = Desk.with("rock a;rock b;hole h at 0 0 bed a thick 3 bed b thick 2;");
        Desk.write(desk, 0, 1, 1);
        Desk.due(desk, "by 3", desk.shift(0, 2, 0, 0), 3, 0);
        Desk.due(desk, "at two places", desk.shift(0, 2, 0, 1), 2, 0);
        Desk.write(desk, 0, -1, -1);
        Desk.due(desk, "nowhere: by 0", desk.shift(0, 2, 0, 0), 0, 0);
        Desk.due(desk, "at no place", desk.shift(0, 2, 0, 1), 0, 0);
    }

    // Part 3: "SHIFT: by how many units (-20 to 20) the LOG should be moved down that it AGREES at the most places (place k against unit k and the shift)"
    private static void shiftFarthest() {
        for (int thick = 19; thick <= 21; thick++) {
            BoreDesk desk = Desk.with("rock a;rock b;hole h at 0 0 bed a thick " + thick + " bed b thick 1;");
            Desk.write(desk, 0, 1);
            Desk.due(desk, "down by " + thick, desk.shift(0, 1, 0, 0), thick <= 20 ? thick : 0, 0);
            Desk.due(desk, "down by " + thick + ": places", desk.shift(0, 1, 0, 1), thick <= 20 ? 1 : 0, 0);
        }
        for (int up = 19; up <= 21; up++) {
            BoreDesk desk = Desk.with("rock a;hole h at 0 0 bed a thick 1;");
            long[] log = new long[up + 1];
            Arrays.fill(log, -1);
            log[up] = 0;
            Desk.write(desk, 0, log);
            Desk.due(desk, "up by " + up, desk.shift(0, up + 1, 0, 0), up <= 20 ? -up : 0, 0);
            Desk.due(desk, "up by " + up + ": places", desk.shift(0, up + 1, 0, 1), up <= 20 ? 1 : 0, 0);
        }
        BoreDesk deep = Desk.with("rock a;rock b;hole h at 0 0 bed a thick 79 bed b thick 1;");
        long[] log = new long[60];
        Arrays.fill(log, -1);
        log[59] = 1;
        Desk.write(deep, 0, log);
        Desk.due(deep, "the last place against unit 79", deep.shift(0, 60, 0, 0), 20, 0);
    }

    // Part 3: "of several the nearest to 0, of two the one below 0."
    private static void shiftTies() {
        BoreDesk desk = Desk.with("rock a;rock b;hole h at 0 0 bed b thick 5 bed a thick 1 bed b thick 5;");
        shift(desk, "both ways by 5", 0, new long[] {-1, -1, -1, -1, -1, 1}, -1);
        BoreDesk two = Desk.with("rock a;rock b;hole h at 0 0 bed a thick 1 bed b thick 3 bed a thick 9;");
        // A rock a at place 2: up by 2, down by 2.
        shift(two, "of two the one below 0", 0, new long[] {-1, -1, 0}, -2);
        // At place 1: up by 1, down by 3. At place 3: up by 3, down by 1.
        shift(two, "the nearest, below 0", 0, new long[] {-1, 0}, -1);
        shift(two, "the nearest, above 0", 0, new long[] {-1, -1, -1, 0}, 1);
        shift(two, "0 itself", 0, new long[] {0}, 0);
        // At the most places ahead of the nearest.
        shift(two, "farther, at more places", 0, new long[] {0, 0, 0}, 4);
    }

    private static void shift(BoreDesk desk, String what, int hole, long[] log, int due) {
        Desk.write(desk, 0, log);
        Desk.due(desk, what, desk.shift(0, log.length, hole, 0), due, 0);
    }

    // Promise 49: "STATUS tells NONE from -1"
    private static void shiftOfMinusOne() {
        BoreDesk desk = Desk.with("rock a;rock b;hole h at 0 0 bed a thick 1;");
        Desk.write(desk, 0, -1, 0);
        Desk.due(desk, "by -1", desk.shift(0, 2, 0, 0), -1, 0);
        Desk.due(desk, "none", desk.shift(0, 3, 0, 0), -1, 3);
        Desk.due(desk, "by -1 again", desk.shift(0, 2, 0, 0), -1, 0);
    }

    // Promise 50: "(1; 2; 3; 5; 6: no HOLES)"
    private static void likestRefused() {
        refusedAlike("likest", (desk, tray, many) -> desk.likest(tray, many), 3);
    }

    // Promise 50: "The HOLE with which a CODED LOG AGREES at the most places, of several the first"
    private static void likestOfSeveral() {
        BoreDesk desk = Desk.with("rock a;rock b;hole g at 0 0;hole h at 1 0 bed a thick 2;hole i at 2 0 bed a thick 2 bed b thick 1;"
                + "hole j at 3 0 bed a thick 2 bed b thick 1;");
        Desk.write(desk, 0, 0, 0, 1);
        Desk.due(desk, "two of three agree alike: the first", desk.likest(0, 2), 1, 0);
        Desk.due(desk, "two agree at three places: the first", desk.likest(0, 3), 2, 0);
        Desk.write(desk, 0, -1);
        Desk.due(desk, "none agrees: the first hole", desk.likest(0, 1), 0, 0);
        Desk.write(desk, 0, -1, -1, 1);
        Desk.due(desk, "one place is enough", desk.likest(0, 3), 2, 0);
    }

    // Promise 50: "6: no HOLES"
    private static void likestWithoutHoles() {
        BoreDesk fresh = new BoreDesk();
        Desk.due(fresh, "1 ahead of 6", fresh.likest(0, 0), -1, 1);
        Desk.due(fresh, "2 ahead of 6", fresh.likest(0, 1), -1, 2);
        Desk.write(fresh, 0, -1, 0);
        Desk.due(fresh, "3 ahead of 6", fresh.likest(0, 3), -1, 3);
        Desk.due(fresh, "5 ahead of 6", fresh.likest(0, 2), -1, 5);
        Desk.due(fresh, "no holes", fresh.likest(0, 1), -1, 6);
        BoreDesk rocks = Desk.with("rock a;");
        Desk.write(rocks, 0, 0, -1);
        Desk.due(rocks, "rocks, but no holes", rocks.likest(0, 2), -1, 6);
    }
}
