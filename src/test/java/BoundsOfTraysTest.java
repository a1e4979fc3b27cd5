/** Bounds that the document names for a new object, STATUS, FRACTIONS, TRAYS: promises 1 to 8. */
public final class BoundsOfTraysTest {
    public static void main(String[] args) {
        lastOfItsCalls();
        newObject();
        newStatus();
        traysThereAre();
        missingAtFirst();
        placesOfTrays();
        sortsOfTrays();
        trayAnew();
        bitsOfEachSort();
        writeRefused();
        readRefused();
        noneFromMinusOne();
        pourBelowZero();
        pourMissing();
        pourUnlike();
        pourTooFew();
        pourNothing();
        pourAll();
        pourOrder();
        pourOntoItself();
        fractions();
        fractionStays();
        Desk.end();
    }

    // Head: "An object is used for at most 512 calls after it has been made"
    private static void lastOfItsCalls() {
        BoreDesk desk = new BoreDesk();
        desk.tray(3, 3, 60);
        for (int call = 2; call <= 511; call++) {
            desk.write(3, call % 60, call);
        }
        Desk.due("the 512th call", desk.read(3, 511 % 60), 511);
    }

    // Promise 1: "A FIELD of no ROCKS, HOLES; no YEARS, MARKS; TRAYS are MISSING; an empty tape"
    private static void newObject() {
        BoreDesk desk = new BoreDesk();
        for (int what = 0; what <= 3; what++) {
            Desk.due(desk, "told " + what, desk.told(what), 0, 0);
        }
        Desk.due(desk, "no rock 0", desk.skip(0), -1, 1);
        Desk.due(desk, "no hole 0", desk.hole(0, 0), -1, 1);
        Desk.due(desk, "no triangle 0", desk.area(0), false, 1);
        Desk.due(desk, "no fault 0", desk.throwing(0, 0), false, 1);
        Desk.due(desk, "no bed 0", desk.holesOf(0), -1, 1);
        Desk.due(desk, "no years", desk.live(0), -1, 6);
        Desk.due(desk, "nothing lived", desk.lived(0), -1, 6);
        Desk.due(desk, "no mark", desk.back(), -1, 6);
        Desk.due(desk, "a byte of an empty tape", desk.field(1), -1, 1);
        Desk.due(desk, "a byte of an empty tape, for years", desk.years(1), -1, 1);
        Desk.due("the first twenty bytes", desk.feed(0, 0, 0, 0, 0), 20);
    }

    // Promise 1: "the FRACTION 0 by 1; STATUS 0."
    private static void newStatus() {
        BoreDesk desk = new BoreDesk();
        Desk.due("status", desk.status(), 0);
        Desk.due("top", desk.top(), 0);
        Desk.due("bottom", desk.bottom(), 1);
    }

    // Part 5: "no such TRAY, ROCK, HOLE, LAYER, TRIANGLE, FAULT, BED."
    private static void traysThereAre() {
        Picture.denied("tray -1", desk -> desk.tray(-1, 0, 1), 1);
        Picture.denied("tray 4", desk -> desk.tray(4, 0, 1), 1);
        Picture.denied("the least tray", desk -> desk.tray(Integer.MIN_VALUE, 0, 1), 1);
        Picture.denied("the greatest tray", desk -> desk.tray(Integer.MAX_VALUE, 0, 1), 1);
        BoreDesk desk = new BoreDesk();
        Desk.due(desk, "tray 0", desk.tray(0, 0, 1), true, 0);
        Desk.due(desk, "tray 3", desk.tray(3, 0, 1), true, 0);
    }

    // Terms: "TRAYS 0 to 3 are MISSING at first"
    private static void missingAtFirst() {
        for (int tray = 0; tray <= 3; tray++) {
            BoreDesk desk = new BoreDesk();
            Desk.due(desk, "read " + tray, desk.read(tray, 0), -1, 2);
            Desk.due(desk, "write " + tray, desk.write(tray, 0, 1), false, 2);
            Desk.due(desk, "pour from " + tray, desk.pour(tray, 0, tray, 0, 0), false, 2);
            for (int other = 0; other <= 3; other++) {
                desk.tray(other, 0, other == tray ? 0 : 1);
            }
            Desk.due(desk, "a row of none is not missing", desk.read(tray, 0), -1, 3);
        }
    }

    // Terms: "MISSING at first, or rows of 0 to 60 numbers"
    private static void placesOfTrays() {
        BoreDesk desk = new BoreDesk();
        Desk.due(desk, "no numbers", desk.tray(0, 0, 0), true, 0);
        Desk.due(desk, "place 0 of none", desk.read(0, 0), -1, 3);
        Desk.due(desk, "one number", desk.tray(0, 0, 1), true, 0);
        Desk.due(desk, "place 0 of one", desk.read(0, 0), 0, 0);
        Desk.due(desk, "place 1 of one", desk.read(0, 1), -1, 3);
        Desk.due(desk, "sixty", desk.tray(0, 3, 60), true, 0);
        Desk.due(desk, "place 59", desk.write(0, 59, -7), true, 0);
        Desk.due(desk, "place 59 read", desk.read(0, 59), -7, 0);
        Desk.due(desk, "place 60", desk.read(0, 60), -1, 3);
        Picture.denied("-1 numbers", full -> full.tray(0, 0, -1), 1);
        Picture.denied("61 numbers", full -> full.tray(0, 0, 61), 1);
        Picture.denied("61 numbers for a missing one", full -> full.tray(3, 0, 61), 1);
        Picture.denied("the most numbers", full -> full.tray(0, 0, Integer.MAX_VALUE), 1);
        Picture.denied("the fewest numbers", full -> full.tray(0, 0, Integer.MIN_VALUE), 1);
    }

    // Terms: "numbers of 8 bits (sort 0), 16 (1), 32 (2) or 64 (3)."
    private static void sortsOfTrays() {
        BoreDesk desk = new BoreDesk();
        Desk.due(desk, "sort 0", desk.tray(0, 0, 1), true, 0);
        Desk.due(desk, "sort 3", desk.tray(0, 3, 1), true, 0);
        Picture.denied("sort -1", full -> full.tray(1, -1, 1), 1);
        Picture.denied("sort 4", full -> full.tray(1, 4, 1), 1);
    }

    // Promise 5: "A TRAY is a row of so many 0s (1)."
    private static void trayAnew() {
        BoreDesk desk = new BoreDesk();
        desk.tray(2, 3, 60);
        for (int place = 0; place < 60; place++) {
            desk.write(2, place, -1);
        }
        Desk.due(desk, "anew", desk.tray(2, 1, 60), true, 0);
        for (int place = 0; place < 60; place++) {
            Desk.due(desk, "0 at " + place, desk.read(2, place), 0, 0);
        }
        Desk.due(desk, "shorter", desk.tray(2, 1, 2), true, 0);
        Desk.due(desk, "one behind it", desk.read(2, 2), -1, 3);
        desk.write(2, 0, 70000);
        Desk.due("of the new sort", desk.read(2, 0), 4464);
    }

    // Promise 6: "A number comes to a place of a TRAY, cut to its sort (1, 2, 3)."
    private static void bitsOfEachSort() {
        BoreDesk desk = new BoreDesk();
        for (int sort = 0; sort <= 3; sort++) {
            desk.tray(sort, sort, 1);
            long most = Long.MAX_VALUE >> 64 - (8 << sort);
            long least = -most - 1;
            written(desk, sort, most, most);
            written(desk, sort, least, least);
            written(desk, sort, most + 1, least);
            written(desk, sort, least - 1, most);
            written(desk, sort, -1, -1);
            written(desk, sort, 0, 0);
            written(desk, sort, Long.MAX_VALUE, sort == 3 ? Long.MAX_VALUE : -1);
            written(desk, sort, Long.MIN_VALUE, sort == 3 ? Long.MIN_VALUE : 0);
        }
        written(desk, 0, 255, -1);
        written(desk, 0, 256, 0);
        written(desk, 1, 65535, -1);
        written(desk, 1, 65536, 0);
        written(desk, 2, 4294967295L, -1);
        written(desk, 2, 4294967296L, 0);
    }

    private static void written(BoreDesk desk, int tray, long v, long due) {
        Desk.due(desk, "write " + v, desk.write(tray, 0, v), true, 0);
        Desk.due(desk, "read " + v + " cut to sort " + tray, desk.read(tray, 0), due, 0);
    }

    // Promise 6: "(1, 2, 3)"
    private static void writeRefused() {
        Picture.denied("write to tray -1", desk -> desk.write(-1, 0, 5), 1);
        Picture.denied("write to tray 4", desk -> desk.write(4, 0, 5), 1);
        Picture.denied("1 ahead of 3", desk -> desk.write(4, 99, 5), 1);
        Picture.denied("write to a missing one", desk -> desk.write(3, 0, 5), 2);
        Picture.denied("2 ahead of 3", desk -> desk.write(3, 60, 5), 2);
        Picture.denied("2 ahead of 3, below 0", desk -> desk.write(3, -1, 5), 2);
        Picture.denied("write to place -1", desk -> desk.write(0, -1, 5), 3);
        Picture.denied("write behind the last place", desk -> desk.write(0, 4, 5), 3);
        Picture.denied("write to the least place", desk -> desk.write(0, Integer.MIN_VALUE, 5), 3);
        Picture.denied("write to the greatest place", desk -> desk.write(0, Integer.MAX_VALUE, 5), 3);
    }

    // Promise 7: "(1, 2, 3)"
    private static void readRefused() {
        Picture.refused("read of tray -1", desk -> desk.read(-1, 0), 1);
        Picture.refused("read of tray 4", desk -> desk.read(4, 0), 1);
        Picture.refused("1 ahead of 3", desk -> desk.read(4, 99), 1);
        Picture.refused("read of a missing one", desk -> desk.read(3, 0), 2);
        Picture.refused("2 ahead of 3", desk -> desk.read(3, -1), 2);
        Picture.refused("read of place -1", desk -> desk.read(0, -1), 3);
        Picture.refused("read behind the last place", desk -> desk.read(0, 4), 3);
        Picture.refused("read of the least place", desk -> desk.read(0, Integer.MIN_VALUE), 3);
        Picture.refused("read of the greatest place", desk -> desk.read(0, Integer.MAX_VALUE), 3);
    }

    // Promise 7: "The number in a place of a TRAY; STATUS tells NONE from -1"
    private static void noneFromMinusOne() {
        BoreDesk desk = new BoreDesk();
        desk.tray(0, 0, 1);
        desk.write(0, 0, -1);
        Desk.due(desk, "-1", desk.read(0, 0), -1, 0);
        Desk.due(desk, "none", desk.read(0, 1), -1, 3);
        Desk.due(desk, "-1 again", desk.read(0, 0), -1, 0);
    }

    // Promise 8: "(1: below 0, too; 2; 8; 3; asked in this order)"
    private static void pourBelowZero() {
        Picture.denied("from -1", desk -> desk.pour(-1, 0, 0, 0, 1), 1);
        Picture.denied("from 4", desk -> desk.pour(4, 0, 0, 0, 1), 1);
        Picture.denied("to -1", desk -> desk.pour(0, 0, -1, 0, 1), 1);
        Picture.denied("to 4", desk -> desk.pour(0, 0, 4, 0, 1), 1);
        Picture.denied("place -1", desk -> desk.pour(0, -1, 0, 0, 1), 1);
        Picture.denied("at -1", desk -> desk.pour(0, 0, 0, -1, 1), 1);
        Picture.denied("-1 numbers", desk -> desk.pour(0, 0, 0, 0, -1), 1);
        Picture.denied("the least of all", desk -> desk.pour(0, 0, 0, 0, Integer.MIN_VALUE), 1);
    }

    // Promise 8: "2"
    private static void pourMissing() {
        Picture.denied("from a missing one", desk -> desk.pour(3, 0, 0, 0, 1), 2);
        Picture.denied("to a missing one", desk -> desk.pour(0, 0, 3, 0, 1), 2);
        Picture.denied("nothing to a missing one", desk -> desk.pour(0, 0, 3, 0, 0), 2);
    }

    // Part 5: "8 TRAYS are of unlike sorts."
    private static void pourUnlike() {
        Picture.denied("8 bits to 64", desk -> desk.pour(0, 0, 1, 0, 1), 8);
        Picture.denied("64 bits to 8", desk -> desk.pour(1, 0, 0, 0, 1), 8);
        Picture.denied("nothing", desk -> desk.pour(0, 0, 2, 0, 0), 8);
        BoreDesk desk = new BoreDesk();
        for (int a = 0; a <= 3; a++) {
            for (int b = 0; b <= 3; b++) {
                desk.tray(0, a, 1);
                desk.tray(1, b, 1);
                Desk.due(desk, "sort " + a + " to " + b, desk.pour(0, 0, 1, 0, 1), a == b, a == b ? 0 : 8);
            }
        }
    }

    // Part 5: "3 a place that the TRAY has not, or too few numbers."
    private static void pourTooFew() {
        Picture.denied("one too many from the first place", desk -> desk.pour(0, 0, 0, 0, 5), 3);
        Picture.denied("one too many from the last place", desk -> desk.pour(0, 3, 0, 0, 2), 3);
        Picture.denied("one too many to the last place", desk -> desk.pour(0, 0, 0, 3, 2), 3);
        Picture.denied("from behind the last place", desk -> desk.pour(0, 4, 0, 0, 1), 3);
        Picture.denied("to behind the last place", desk -> desk.pour(0, 0, 0, 4, 1), 3);
        Picture.denied("nothing from farther", desk -> desk.pour(0, 5, 0, 0, 0), 3);
        Picture.denied("nothing to farther", desk -> desk.pour(0, 0, 0, 5, 0), 3);
        Picture.denied("a sum beyond an int", desk -> desk.pour(0, 1, 0, 0, Integer.MAX_VALUE), 3);
        Picture.denied("a sum beyond an int, too", desk -> desk.pour(0, 0, 0, Integer.MAX_VALUE, 1), 3);
        Picture.denied("sixty-one", desk -> desk.pour(0, 0, 0, 0, 61), 3);
    }

    // Promise 8: "So many numbers of a TRAY" - none at all
    private static void pourNothing() {
        BoreDesk desk = new BoreDesk();
        Desk.write(desk, 0, 1, 2);
        Desk.write(desk, 1, 3);
        Desk.write(desk, 2);
        Desk.due(desk, "nothing", desk.pour(0, 0, 1, 0, 0), true, 0);
        Desk.due(desk, "nothing to its end", desk.pour(0, 0, 1, 1, 0), true, 0);
        Desk.due(desk, "nothing from its end", desk.pour(0, 2, 1, 0, 0), true, 0);
        Desk.due(desk, "nothing to a row of none", desk.pour(0, 0, 2, 0, 0), true, 0);
        Desk.due(desk, "nothing of a row of none", desk.pour(2, 0, 2, 0, 0), true, 0);
        Desk.due(desk, "as it was", desk.read(1, 0), 3, 0);
    }

    // Promise 8: "So many numbers of a TRAY" - as many as there may be
    private static void pourAll() {
        BoreDesk desk = new BoreDesk();
        desk.tray(0, 2, 60);
        desk.tray(1, 2, 60);
        for (int place = 0; place < 60; place++) {
            desk.write(0, place, place - 30);
        }
        Desk.due(desk, "sixty", desk.pour(0, 0, 1, 0, 60), true, 0);
        Desk.due("the first", desk.read(1, 0), -30);
        Desk.due("the last", desk.read(1, 59), 29);
        Desk.due(desk, "the last alone", desk.pour(0, 59, 1, 0, 1), true, 0);
        Desk.due("it comes to the first", desk.read(1, 0), 29);
        Desk.due("the second is as it was", desk.read(1, 1), -29);
    }

    // Promise 8: "asked in this order"
    private static void pourOrder() {
        Picture.denied("1 ahead of 2", desk -> desk.pour(3, 0, 0, 0, -1), 1);
        Picture.denied("1 ahead of 8", desk -> desk.pour(0, -1, 1, 0, 1), 1);
        Picture.denied("1 ahead of 3", desk -> desk.pour(0, 99, 0, 0, -1), 1);
        Picture.denied("2 ahead of 3", desk -> desk.pour(3, 0, 0, 99, 1), 2);
        Picture.denied("8 ahead of 3", desk -> desk.pour(0, 99, 1, 0, 1), 8);
        Picture.denied("8 ahead of 3, to", desk -> desk.pour(0, 0, 1, 0, 99), 8);
    }

    // Promise 8: "So many numbers of a TRAY, from a place on, come to another one's (or its own) place on, as they were"
    private static void pourOntoItself() {
        BoreDesk desk = new BoreDesk();
        Desk.write(desk, 0, 1, 2, 3, 4);
        Desk.due(desk, "one up", desk.pour(0, 0, 0, 1, 3), true, 0);
        long[] up = {1, 1, 2, 3};
        long[] down = {1, 2, 3, 3};
        for (int place = 0; place < 4; place++) {
            Desk.due("up " + place, desk.read(0, place), up[place]);
        }
        Desk.due(desk, "one down", desk.pour(0, 1, 0, 0, 3), true, 0);
        for (int place = 0; place < 4; place++) {
            Desk.due("down " + place, desk.read(0, place), down[place]);
        }
        Desk.due(desk, "all onto itself", desk.pour(0, 0, 0, 0, 4), true, 0);
        Desk.due("the last", desk.read(0, 3), 3);
    }

    // Part 4: "FRACTIONS are told by top() and bottom() without a common divisor, the bottom above 0; 0 is 0 by 1."
    private static void fractions() {
        BoreDesk desk = Desk.with("rock r;hole a at 0 0 bed r thick 4;hole b at 6 0 bed r thick 2;hole c at 0 8 bed r thick 2;"
                + "hole d at 3 0;hole e at 0 1;hole k at 9 9 bed r thick 1;triangle a b c;triangle c b a;triangle a d e;"
                + "fault f from 5 0 to 5 9 throws 4;fault g from 0 8 to 9 9 throws 0;");
        Desk.fraction(desk, "a whole one", desk.area(0), 24, 1);
        Desk.fraction(desk, "turned about", desk.area(1), 24, 1);
        Desk.fraction(desk, "a half", desk.area(2), 3, 2);
        BoreDesk tilted = Desk.with("rock r;rock s skip 99;unlike r s costs 99;hole a at 0 0 bed r thick 4 bed s thick 1;"
                + "hole b at 6 0 bed r thick 2 bed s thick 1;hole c at 0 8 bed r thick 10 bed s thick 1;"
                + "triangle a b c;triangle a c b;");
        Desk.fraction(tilted, "below 0", tilted.tilt(1, 0, 0), -1, 3);
        Desk.fraction(tilted, "below 0, turned about", tilted.tilt(1, 1, 0), -1, 3);
        Desk.fraction(tilted, "above 0", tilted.tilt(1, 0, 1), 3, 4);
        Desk.fraction(tilted, "above 0, turned about", tilted.tilt(1, 1, 1), 3, 4);
        Desk.fraction(tilted, "0 by 1", tilted.tilt(0, 0, 0), 0, 1);
        Desk.fraction(tilted, "0 by 1, turned about", tilted.tilt(0, 1, 1), 0, 1);
    }

    // Promise 3: "The top of the FRACTION told latest."
    // Promise 4: "Its bottom, above 0."
    private static void fractionStays() {
        BoreDesk desk = Desk.with("hole a at 0 0;hole b at 3 0;hole c at 0 5;triangle a b c;");
        Desk.fraction(desk, "told", desk.area(0), 15, 2);
        Desk.due(desk, "refused", desk.area(1), false, 1);
        Desk.due(desk, "another call", desk.told(0), 0, 0);
        Desk.field(desk, "");
        Desk.due("the top of the latest", desk.top(), 15);
        Desk.due("the bottom of the latest", desk.bottom(), 2);
    }
}
