/** Promises 1 to 8: a new object, STATUS, FRACTION, TRAYS. */
public final class TraysTest {
    public static void main(String[] args) {
        newObject();
        statusStays();
        fractionStays();
        trays();
        writing();
        reading();
        pouring();
        Desk.end();
    }

    private static void newObject() {
        BoreDesk desk = new BoreDesk();
        Desk.due("NONE", BoreDesk.NONE, -1);
        Desk.due("new status", desk.status(), 0);
        Desk.due("new top", desk.top(), 0);
        Desk.due("new bottom", desk.bottom(), 1);
        for (int what = 0; what < 4; what++) {
            Desk.due(desk, "new told", desk.told(what), 0, 0);
        }
        Desk.due("new fault", desk.fault(0), -1);
        for (int tray = 0; tray < 4; tray++) {
            Desk.due(desk, "new tray is missing", desk.read(tray, 0), -1, 2);
        }
        Desk.due(desk, "no marks", desk.back(), -1, 6);
        Desk.due(desk, "no years", desk.live(0), -1, 6);
        Desk.due(desk, "an empty tape", desk.field(1), -1, 1);
        Desk.due(desk, "beds", desk.beds(), 0, 0);
        Desk.due("an empty tape, fed", desk.feed(0, 0, 0, 0, 0), 20);
    }

    private static void statusStays() {
        BoreDesk desk = new BoreDesk();
        desk.told(9);
        Desk.due("status", desk.status(), 1);
        desk.top();
        desk.bottom();
        desk.feed(1, 2, 3, 4, 5);
        desk.fault(0);
        desk.fault(9);
        Desk.due("status stays over those that have none", desk.status(), 1);
        Desk.due("status itself has none", desk.status(), 1);
        desk.told(0);
        Desk.due("status is 0 again", desk.status(), 0);
    }

    private static void fractionStays() {
        BoreDesk desk = Desk.with("hole a at 0 0; hole b at 3 0; hole c at 0 5; triangle a b c;");
        Desk.fraction(desk, "area", desk.area(0), 15, 2);
        Desk.due(desk, "no triangle", desk.area(1), false, 1);
        Desk.due("top stays", desk.top(), 15);
        Desk.due("bottom stays", desk.bottom(), 2);
        desk.told(0);
        Desk.due("top stays over others", desk.top(), 15);
    }

    private static void trays() {
        BoreDesk desk = new BoreDesk();
        Desk.due(desk, "tray -1", desk.tray(-1, 0, 5), false, 1);
        Desk.due(desk, "tray 4", desk.tray(4, 0, 5), false, 1);
        Desk.due(desk, "sort -1", desk.tray(0, -1, 5), false, 1);
        Desk.due(desk, "sort 4", desk.tray(0, 4, 5), false, 1);
        Desk.due(desk, "many -1", desk.tray(0, 0, -1), false, 1);
        Desk.due(desk, "many 61", desk.tray(0, 0, 61), false, 1);
        Desk.due(desk, "still missing", desk.read(0, 0), -1, 2);
        Desk.due(desk, "none in it", desk.tray(0, 0, 0), true, 0);
        Desk.due(desk, "no place", desk.read(0, 0), -1, 3);
        Desk.due(desk, "sixty", desk.tray(0, 3, 60), true, 0);
        Desk.due(desk, "last place", desk.write(0, 59, 7), true, 0);
        Desk.due(desk, "anew", desk.tray(0, 3, 60), true, 0);
        Desk.due(desk, "zeros again", desk.read(0, 59), 0, 0);
        desk.write(0, 0, 5);
        Desk.due(desk, "refused", desk.tray(0, 3, 61), false, 1);
        Desk.due(desk, "and unchanged", desk.read(0, 0), 5, 0);
    }

    private static void writing() {
        BoreDesk desk = new BoreDesk();
        for (int sort = 0; sort < 4; sort++) {
            desk.tray(sort, sort, 3);
        }
        long v = 0x123456789abcdef8L;
        long[] cut = {(byte) 0xf8, (short) 0xdef8, (int) 0x9abcdef8L, v};
        for (int sort = 0; sort < 4; sort++) {
            Desk.due(desk, "write", desk.write(sort, 2, v), true, 0);
            Desk.due(desk, "read cut to its sort " + sort, desk.read(sort, 2), cut[sort], 0);
            Desk.due(desk, "write -1", desk.write(sort, 1, -1), true, 0);
            Desk.due(desk, "read -1", desk.read(sort, 1), -1, 0);
            Desk.due(desk, "untouched", desk.read(sort, 0), 0, 0);
        }
        desk.write(0, 0, 128);
        Desk.due("128 in 8 bits", desk.read(0, 0), -128);
        desk.write(1, 0, 65535);
        Desk.due("65,535 in 16 bits", desk.read(1, 0), -1);
        Desk.due(desk, "no tray", desk.write(4, 0, 1), false, 1);
        Desk.due(desk, "no tray, no place", desk.write(-1, -1, 1), false, 1);
        Desk.due(desk, "place -1", desk.write(0, -1, 1), false, 3);
        Desk.due(desk, "place 3", desk.write(0, 3, 1), false, 3);
        BoreDesk fresh = new BoreDesk();
        Desk.due(fresh, "missing", fresh.write(0, -1, 1), false, 2);
    }

    private static void reading() {
        BoreDesk desk = new BoreDesk();
        desk.tray(1, 3, 2);
        desk.write(1, 0, Long.MIN_VALUE);
        desk.write(1, 1, Long.MAX_VALUE);
        Desk.due(desk, "least", desk.read(1, 0), Long.MIN_VALUE, 0);
        Desk.due(desk, "most", desk.read(1, 1), Long.MAX_VALUE, 0);
        Desk.due(desk, "no tray", desk.read(4, 0), -1, 1);
        Desk.due(desk, "missing", desk.read(0, 0), -1, 2);
        Desk.due(desk, "place -1", desk.read(1, -1), -1, 3);
        Desk.due(desk, "place 2", desk.read(1, 2), -1, 3);
        Desk.due(desk, "the greatest place", desk.read(1, Integer.MAX_VALUE), -1, 3);
    }

    private static void pouring() {
        BoreDesk desk = new BoreDesk();
        Desk.write(desk, 0, 1, 2, 3, 4, 5);
        Desk.write(desk, 1, 9, 9, 9);
        desk.tray(2, 2, 5);
        Desk.due(desk, "to another one", desk.pour(0, 3, 1, 1, 2), true, 0);
        row(desk, 1, 9, 4, 5);
        Desk.due(desk, "onto itself, up", desk.pour(0, 0, 0, 1, 4), true, 0);
        row(desk, 0, 1, 1, 2, 3, 4);
        Desk.due(desk, "onto itself, down", desk.pour(0, 1, 0, 0, 4), true, 0);
        row(desk, 0, 1, 2, 3, 4, 4);
        Desk.due(desk, "none", desk.pour(0, 5, 1, 3, 0), true, 0);
        Desk.due(desk, "from -1", desk.pour(-1, 0, 1, 0, 1), false, 1);
        Desk.due(desk, "to 4", desk.pour(0, 0, 4, 0, 1), false, 1);
        Desk.due(desk, "place -1", desk.pour(0, -1, 1, 0, 1), false, 1);
        Desk.due(desk, "at -1", desk.pour(0, 0, 1, -1, 1), false, 1);
        Desk.due(desk, "many -1", desk.pour(0, 0, 1, 0, -1), false, 1);
        Desk.due(desk, "1 ahead of 2", desk.pour(3, 0, 1, 0, -1), false, 1);
        Desk.due(desk, "from a missing one", desk.pour(3, 0, 1, 0, 1), false, 2);
        Desk.due(desk, "to a missing one", desk.pour(0, 99, 3, 0, 1), false, 2);
        Desk.due(desk, "unlike sorts ahead of places", desk.pour(0, 99, 2, 0, 1), false, 8);
        Desk.due(desk, "too few in the first", desk.pour(0, 3, 1, 0, 3), false, 3);
        Desk.due(desk, "too few in the second", desk.pour(0, 0, 1, 1, 3), false, 3);
        Desk.due(desk, "too far by far", desk.pour(0, Integer.MAX_VALUE, 1, 0, Integer.MAX_VALUE), false, 3);
        row(desk, 0, 1, 2, 3, 4, 4);
        row(desk, 1, 9, 4, 5);
    }

    private static void row(BoreDesk desk, int tray, long... numbers) {
        for (int i = 0; i < numbers.length; i++) {
            Desk.due(desk, "tray " + tray + " place " + i, desk.read(tray, i), numbers[i], 0);
        }
        Desk.due(desk, "no more places", desk.read(tray, numbers.length), -1, 3);
    }
}
