/** Promises 44 to 50: LOGS. */
public final class LogsTest {
    public static void main(String[] args) {
        picks();
        picksByWindow();
        picksWrong();
        fills();
        runs();
        agrees();
        shifts();
        shiftTies();
        likest();
        Desk.end();
    }

    private static void picks() {
        BoreDesk desk = new BoreDesk();
        Desk.due(desk, "no picks yet", desk.pickAt(0), -1, 6);
        Desk.write(desk, 0, 5, 10, 9, 10, 11, -1, 12, 3, -1, 4, 99, 100, 0, 50);
        // Not at 6: the one ahead is none. Not at 4, 11: the one ahead is no less than the mark.
        Desk.due(desk, "picks", desk.picks(0, 14, 10, 1), 4, 0);
        int[] places = {1, 3, 10, 13};
        for (int k = 0; k < 4; k++) {
            Desk.due(desk, "pick " + k, desk.pickAt(k), places[k], 0);
        }
        Desk.due(desk, "pick 4", desk.pickAt(4), -1, 6);
        Desk.due(desk, "pick -1", desk.pickAt(-1), -1, 6);
        desk.write(0, 1, 0);
        desk.tray(0, 0, 3);
        Desk.due(desk, "they stay", desk.pickAt(0), 1, 0);
        Desk.due(desk, "missing", desk.picks(1, 3, 10, 1), -1, 2);
        Desk.due(desk, "of the latest with status 0", desk.pickAt(3), 13, 0);
        Desk.due(desk, "none", desk.picks(0, 3, 10, 1), 0, 0);
        Desk.due(desk, "none such", desk.pickAt(0), -1, 6);
        Desk.write(desk, 1, 20, 1, 20);
        Desk.due(desk, "the first place has none ahead", desk.picks(1, 3, 10, 1), 1, 0);
        Desk.due(desk, "it is place 2", desk.pickAt(0), 2, 0);
        Desk.due(desk, "fewer numbers", desk.picks(1, 2, 10, 1), 0, 0);
        Desk.due(desk, "a mark of 0: nothing is below it", desk.picks(1, 3, 0, 1), 0, 0);
        Desk.write(desk, 1, 999998, 999999);
        Desk.due(desk, "the greatest mark", desk.picks(1, 2, 999999, 9), 1, 0);
    }

    private static void picksByWindow() {
        BoreDesk desk = new BoreDesk();
        Desk.write(desk, 0, 0, 10, 10, 9, 0, 10, -1, 10, 9, 0, 10);
        int[][] due = {{1, 3}, {2, 3}, {3, 2}, {4, 1}, {9, 1}};
        for (int[] row : due) {
            Desk.due(desk, "window " + row[0], desk.picks(0, 11, 10, row[0]), row[1], 0);
        }
        Desk.due(desk, "the end does not matter", desk.pickAt(0), 10, 0);
        desk.picks(0, 11, 10, 3);
        Desk.due(desk, "none does not matter", desk.pickAt(0), 5, 0);
        Desk.due(desk, "nor what is behind the first so many", desk.picks(0, 3, 10, 9), 1, 0);
    }

    private static void picksWrong() {
        BoreDesk desk = new BoreDesk();
        Desk.write(desk, 0, 1, -2, 3);
        Desk.write(desk, 1, 1, 1000000, -3);
        Desk.due(desk, "tray -1", desk.picks(-1, 1, 1, 1), -1, 1);
        Desk.due(desk, "tray 4", desk.picks(4, 1, 1, 1), -1, 1);
        Desk.due(desk, "many 0", desk.picks(0, 0, 1, 1), -1, 1);
        Desk.due(desk, "many 61", desk.picks(0, 61, 1, 1), -1, 1);
        Desk.due(desk, "mark -1", desk.picks(0, 1, -1, 1), -1, 1);
        Desk.due(desk, "mark a million", desk.picks(0, 1, 1000000, 1), -1, 1);
        Desk.due(desk, "window 0", desk.picks(0, 1, 1, 0), -1, 1);
        Desk.due(desk, "window 10", desk.picks(0, 1, 1, 10), -1, 1);
        Desk.due(desk, "1 ahead of 2", desk.picks(3, 1, 1, 10), -1, 1);
        Desk.due(desk, "2 ahead of 3", desk.picks(3, 60, 1, 1), -1, 2);
        Desk.due(desk, "3 ahead of 5", desk.picks(0, 4, 1, 1), -1, 3);
        Desk.due(desk, "below -1", desk.picks(0, 2, 1, 1), -1, 5);
        Desk.due(desk, "above 999,999", desk.picks(1, 2, 1, 1), -1, 5);
        Desk.due(desk, "behind the first so many", desk.picks(0, 1, 1, 1), 0, 0);
        wrongLogs(desk);
    }

    /** What fill() and runs() refuse alike. */
    private static void wrongLogs(BoreDesk desk) {
        int[][] wrong = {{-1, 1, 1}, {4, 1, 1}, {0, 0, 1}, {0, 61, 1}, {0, -1, 1}, {3, 60, 2}, {0, 4, 3}, {0, 2, 5}, {1, 3, 5}};
        for (int[] row : wrong) {
            Desk.due(desk, "fill " + row[0] + " " + row[1], desk.fill(row[0], row[1]), -1, row[2]);
            Desk.due(desk, "runs " + row[0] + " " + row[1], desk.runs(row[0], row[1]), -1, row[2]);
        }
    }

    private static void fills() {
        BoreDesk desk = new BoreDesk();
        Desk.write(desk, 0, -1, -1, 7, -1, -1, 0, -1, 5, -1);
        Desk.due(desk, "fill", desk.fill(0, 8), 3, 0);
        long[] due = {-1, -1, 7, 7, 7, 0, 0, 5, -1};
        for (int i = 0; i < due.length; i++) {
            Desk.due("filled " + i, desk.read(0, i), due[i]);
        }
        Desk.due(desk, "the last, too", desk.fill(0, 9), 1, 0);
        Desk.due(desk, "nothing more", desk.fill(0, 9), 0, 0);
        desk.tray(1, 0, 3);
        desk.write(1, 0, 4);
        desk.write(1, 1, 255);
        desk.write(1, 2, -1);
        Desk.due(desk, "in 8 bits", desk.fill(1, 3), 2, 0);
        Desk.due("in 8 bits, last", desk.read(1, 2), 4);
        Desk.write(desk, 2, 3, -1, -2);
        Desk.due(desk, "refused", desk.fill(2, 3), -1, 5);
        Desk.due("nothing is filled", desk.read(2, 1), -1);
    }

    private static void runs() {
        BoreDesk desk = new BoreDesk();
        Desk.write(desk, 0, 3, 3, 5, 3, 3, 3, -1, -1, 0, 0);
        int[] due = {1, 1, 2, 3, 3, 3, 4, 4, 5, 5};
        for (int many = 1; many <= 10; many++) {
            Desk.due(desk, "runs of " + many, desk.runs(0, many), due[many - 1], 0);
        }
    }

    private static final String TWO = "rock a;rock b;hole g at 0 0 bed a thick 2 bed b thick 3;hole h at 1 1 bed b thick 2;"
            + "hole i at 2 2 bed b thick 2 bed a thick 40;hole j at 3 3;fault f from 0 999 to 0 0 throws 9;";

    private static void agrees() {
        BoreDesk desk = Desk.with(TWO);
        Desk.write(desk, 0, 0, 1, -1, 1, 1, 1, 0);
        Desk.due(desk, "agrees with g", desk.agrees(0, 7, 0), 3, 0);
        Desk.due(desk, "fewer", desk.agrees(0, 4, 0), 2, 0);
        Desk.due(desk, "agrees with h", desk.agrees(0, 7, 1), 1, 0);
        Desk.due(desk, "agrees with j", desk.agrees(0, 7, 3), 0, 0);
        Desk.due(desk, "hole 4", desk.agrees(0, 7, 4), -1, 1);
        Desk.due(desk, "hole -1", desk.agrees(0, 7, -1), -1, 1);
        Desk.due(desk, "many 0", desk.agrees(0, 0, 0), -1, 1);
        Desk.due(desk, "many 61", desk.agrees(0, 61, 0), -1, 1);
        Desk.due(desk, "tray 4", desk.agrees(4, 7, 0), -1, 1);
        Desk.due(desk, "1 ahead of 2", desk.agrees(1, 7, 4), -1, 1);
        Desk.due(desk, "missing", desk.agrees(1, 60, 0), -1, 2);
        desk.write(0, 6, 2);
        Desk.due(desk, "too few ahead of no rock", desk.agrees(0, 8, 0), -1, 3);
        Desk.due(desk, "no rock", desk.agrees(0, 7, 0), -1, 5);
        Desk.due(desk, "no rock, behind the first so many", desk.agrees(0, 6, 0), 3, 0);
        desk.write(0, 0, -2);
        Desk.due(desk, "below -1", desk.agrees(0, 1, 0), -1, 5);
    }

    private static void shifts() {
        BoreDesk desk = Desk.with(TWO);
        // In hole i b is at the units 0, 1, a from 2 to 41.
        Desk.write(desk, 0, -1, -1, -1, -1, 1, 1, 0, 0);
        shift(desk, "up", 0, 8, 2, -4, 4);
        Desk.write(desk, 0, 0, 0, 0);
        shift(desk, "down", 0, 3, 2, 2, 3);
        Desk.write(desk, 0, 1, 0, 0);
        shift(desk, "one down", 0, 3, 2, 1, 3);
        shift(desk, "nothing to agree with", 0, 3, 3, 0, 0);
        Desk.write(desk, 0, -1, -1);
        shift(desk, "none alone", 0, 2, 2, 0, 0);
        Desk.write(desk, 0, -1, 1, 1);
        shift(desk, "by -1", 0, 3, 2, -1, 2);
        long[] far = new long[23];
        java.util.Arrays.fill(far, -1);
        far[20] = 1;
        far[21] = 1;
        far[22] = 0;
        Desk.write(desk, 0, far);
        shift(desk, "the farthest up", 0, 23, 2, -20, 3);
        BoreDesk deep = Desk.with("rock a;rock b;hole g at 0 0 bed a thick 21 bed b thick 9;hole h at 1 0 bed a thick 20 bed b thick 9;");
        Desk.write(deep, 0, 1, 1);
        shift(deep, "the farthest down", 0, 1, 1, 20, 1);
        shift(deep, "farther than that, for one", 0, 1, 0, 0, 0);
        shift(deep, "the second reaches", 0, 2, 0, 20, 1);
        Desk.due(deep, "what 2", deep.shift(0, 1, 0, 2), -1, 1);
        Desk.due(deep, "what -1", deep.shift(0, 1, 0, -1), -1, 1);
        Desk.due(deep, "hole 2", deep.shift(0, 1, 2, 0), -1, 1);
        Desk.due(deep, "many 0", deep.shift(0, 0, 0, 0), -1, 1);
        Desk.due(deep, "tray 4", deep.shift(4, 1, 0, 0), -1, 1);
        Desk.due(deep, "missing", deep.shift(1, 1, 0, 0), -1, 2);
        Desk.due(deep, "too few", deep.shift(0, 3, 0, 0), -1, 3);
        deep.write(0, 1, 2);
        Desk.due(deep, "no rock", deep.shift(0, 2, 0, 0), -1, 5);
    }

    private static void shiftTies() {
        BoreDesk desk = Desk.with("rock a;rock b;rock c;hole g at 0 0 bed a thick 3 bed b thick 3 bed a thick 3;"
                + "hole h at 1 0 bed b thick 1 bed c thick 2 bed b thick 1;");
        Desk.write(desk, 0, -1, -1, -1, -1, 0);
        // At unit 4 is b; a is at 2, two up, and at 6, two down.
        shift(desk, "of two the one below 0", 0, 5, 0, -2, 1);
        Desk.write(desk, 0, -1, -1, -1, 0);
        shift(desk, "of several the nearest to 0", 0, 4, 0, -1, 1);
        Desk.write(desk, 0, -1, -1, 1);
        shift(desk, "one down ahead of two up", 0, 3, 1, 1, 1);
        Desk.write(desk, 0, 0);
        shift(desk, "0 ahead of others", 0, 1, 0, 0, 1);
    }

    private static void shift(BoreDesk desk, String what, int tray, int many, int hole, int by, int places) {
        Desk.due(desk, what, desk.shift(tray, many, hole, 0), by, 0);
        Desk.due(desk, what + ": places", desk.shift(tray, many, hole, 1), places, 0);
    }

    private static void likest() {
        BoreDesk desk = Desk.with(TWO);
        Desk.write(desk, 0, 1, 1, 0, 0);
        Desk.due(desk, "likest", desk.likest(0, 4), 2, 0);
        Desk.due(desk, "of several the first", desk.likest(0, 2), 1, 0);
        Desk.write(desk, 0, -1, -1);
        Desk.due(desk, "none at all", desk.likest(0, 2), 0, 0);
        Desk.due(desk, "tray -1", desk.likest(-1, 2), -1, 1);
        Desk.due(desk, "many 0", desk.likest(0, 0), -1, 1);
        Desk.due(desk, "missing", desk.likest(1, 2), -1, 2);
        Desk.due(desk, "too few", desk.likest(0, 3), -1, 3);
        desk.write(0, 0, 2);
        Desk.due(desk, "no rock", desk.likest(0, 2), -1, 5);
        BoreDesk empty = Desk.with("rock a;");
        Desk.write(empty, 0, 0, 1);
        Desk.due(empty, "no holes", empty.likest(0, 1), -1, 6);
        Desk.due(empty, "no rock ahead of no holes", empty.likest(0, 2), -1, 5);
    }
}
