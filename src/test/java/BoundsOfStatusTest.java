import java.util.LinkedHashMap;
import java.util.List;
import java.util.Map;
import java.util.function.ToLongFunction;

/** Bounds that the document names for STATUS and MARKS: its fifth part, promises 2, 57, 58. */
public final class BoundsOfStatusTest {
    private static final int[] NUMBERS = {-1, 0, 1, 2, 3, 4, 6, 8, 9, 10, 11, 12, 13, 59, 60, 61, 99, 100, 999, 1000, 9999, 10000,
            999999, 1000000, Integer.MIN_VALUE, Integer.MAX_VALUE};

    public static void main(String[] args) {
        statusOfTheLatest();
        statusOfThoseThatHaveNone();
        nothingElseChanges();
        answersAloneChangeNothing();
        tapeAndFaultAlone();
        theFirstThatHolds();
        eachStatus();
        marksMost();
        marksRefused();
        backToTheLatest();
        backOfNone();
        backOfWhatBecame();
        backAcrossFields();
        backOfYears();
        backOfNothing();
        Desk.end();
    }

    /** A call of each kind that has a STATUS, with arguments that are fine on Picture.full(). */
    private static Map<String, ToLongFunction<BoreDesk>> calls() {
        Map<String, ToLongFunction<BoreDesk>> calls = answers();
        calls.put("tray", desk -> one(desk.tray(3, 3, 60)));
        calls.put("write", desk -> one(desk.write(0, 3, -9)));
        calls.put("pour", desk -> one(desk.pour(0, 0, 0, 1, 2)));
        calls.put("field", desk -> desk.field(0));
        calls.put("years", desk -> desk.years(0));
        calls.put("match", desk -> desk.match(0, 1));
        calls.put("area", desk -> one(desk.area(0)));
        calls.put("topAt", desk -> one(desk.topAt(0, 0, 0)));
        calls.put("thickAt", desk -> one(desk.thickAt(0, 0, 0)));
        calls.put("volume", desk -> one(desk.volume(0, 0)));
        calls.put("volumeOf", desk -> one(desk.volumeOf(0)));
        calls.put("tilt", desk -> one(desk.tilt(0, 0, 1)));
        calls.put("draws", desk -> desk.draws(0, 0));
        calls.put("picks", desk -> desk.picks(0, 3, 1, 1));
        calls.put("fill", desk -> desk.fill(0, 3));
        calls.put("lay", desk -> desk.lay(0, 0, 1));
        calls.put("wear", desk -> desk.wear(0, 1));
        calls.put("throwing", desk -> one(desk.throwing(0, 0)));
        calls.put("live", desk -> desk.live(0));
        calls.put("odds", desk -> one(desk.odds(0, 0, 0, 1)));
        calls.put("mark", desk -> desk.mark());
        calls.put("back", desk -> desk.back());
        return calls;
    }

    /** Those of them that answer alone. */
    private static Map<String, ToLongFunction<BoreDesk>> answers() {
        Map<String, ToLongFunction<BoreDesk>> calls = new LinkedHashMap<>();
        calls.put("read", desk -> desk.read(0, 0));
        calls.put("told", desk -> desk.told(3));
        calls.put("skip", desk -> desk.skip(0));
        calls.put("unlike", desk -> desk.unlike(0, 1));
        calls.put("hole", desk -> desk.hole(0, 4));
        calls.put("layer", desk -> desk.layer(0, 0, 2));
        calls.put("layerAt", desk -> desk.layerAt(0, 109));
        calls.put("side", desk -> desk.side(0, 0));
        calls.put("pairOf", desk -> desk.pairOf(1));
        calls.put("pairs", desk -> desk.pairs());
        calls.put("tree", desk -> desk.tree(2, 2));
        calls.put("treeCost", desk -> desk.treeCost());
        calls.put("beds", desk -> desk.beds());
        calls.put("bedOf", desk -> desk.bedOf(0, 0));
        calls.put("holesOf", desk -> desk.holesOf(0));
        calls.put("bed", desk -> desk.bed(0, 0, 0));
        calls.put("above", desk -> desk.above(0, 1));
        calls.put("order", desk -> desk.order(0));
        calls.put("widest", desk -> desk.widest());
        calls.put("across", desk -> desk.across(0));
        calls.put("triangleAt", desk -> desk.triangleAt(0, 0));
        calls.put("deepest", desk -> desk.deepest(0));
        calls.put("shared", desk -> desk.shared(0, 1));
        calls.put("gaps", desk -> desk.gaps(0));
        calls.put("pickAt", desk -> desk.pickAt(0));
        calls.put("runs", desk -> desk.runs(0, 3));
        calls.put("agrees", desk -> desk.agrees(0, 3, 0));
        calls.put("shift", desk -> desk.shift(0, 3, 0, 1));
        calls.put("likest", desk -> desk.likest(0, 3));
        calls.put("lived", desk -> desk.lived(0));
        return calls;
    }

    private static long one(boolean answer) {
        return answer ? 1 : -1;
    }

    // Promise 2: "STATUS of the latest call that has one."
    // Part 5: "0 else."
    private static void statusOfTheLatest() {
        Desk.due("all calls that have a STATUS", calls().size(), 52);
        for (Map.Entry<String, ToLongFunction<BoreDesk>> call : calls().entrySet()) {
            BoreDesk desk = Picture.full();
            desk.read(3, 0);
            Desk.due("STATUS ahead of " + call.getKey(), desk.status(), 2);
            Desk.due(desk, call.getKey(), call.getValue().applyAsLong(desk) >= 0, true, 0);
            desk.pickAt(-1);
            Desk.due("STATUS behind " + call.getKey(), desk.status(), 6);
        }
    }

    // Part 5: "status(), top(), bottom(), feed(), fault() have none."
    private static void statusOfThoseThatHaveNone() {
        BoreDesk desk = Picture.full();
        for (int due : new int[] {2, 0, 6, 1}) {
            if (due == 2) {
                desk.read(3, 0);
            } else if (due == 0) {
                desk.read(0, 0);
            } else if (due == 6) {
                desk.pickAt(-1);
            } else {
                desk.told(-1);
            }
            desk.top();
            desk.bottom();
            desk.feed(0, 0, 0, 0, 0);
            desk.fault(0);
            desk.fault(9);
            Desk.due("STATUS " + due + " stays", desk.status(), due);
            Desk.due("STATUS " + due + " stays, asked twice", desk.status(), due);
        }
    }

    // Part 5: "With another STATUS than 0 a call gives NONE, or false, and changes nothing else (but field(), years() with 9 the tape, and what fault() tells)."
    private static void nothingElseChanges() {
        List<String> due = Picture.of(Picture.full());
        for (int i = 0; i < NUMBERS.length; i++) {
            for (int which = 0; which < 60; which++) {
                BoreDesk desk = Picture.full();
                int n = NUMBERS[i];
                int m = NUMBERS[(i * 7 + which) % NUMBERS.length];
                long answer = anyCall(desk, which, n, m);
                if (desk.status() != 0) {
                    Desk.due("call " + which + " by " + n + ", " + m + " gives NONE", answer, -1);
                    Desk.due("call " + which + " by " + n + ", " + m + " changes nothing", Picture.of(desk).equals(due), true);
                }
            }
        }
    }

    /** A call with one or two of its arguments told, the others fine on Picture.full(). */
    private static long anyCall(BoreDesk desk, int which, int n, int m) {
        switch (which) {
            case 0: return one(desk.tray(n, 0, 5));
            case 1: return one(desk.tray(3, n, m));
            case 2: return one(desk.write(n, m, 5));
            case 3: return one(desk.write(0, n, 5));
            case 4: return desk.read(n, m) < 0 && desk.status() == 0 ? 0 : desk.read(n, m);
            case 5: return one(desk.pour(n, 0, 0, 0, m));
            case 6: return one(desk.pour(0, 0, n, 0, m));
            case 7: return one(desk.pour(0, n, 0, m, 1));
            case 8: return one(desk.pour(1, m, 1, 0, n));
            case 9: return n > 40 || n < 0 ? desk.field(n) : -1;
            case 10: return n > 40 || n < 0 ? desk.years(n) : -1;
            case 11: return desk.told(n);
            case 12: return desk.skip(n);
            case 13: return desk.unlike(n, m);
            case 14: return desk.hole(n, m);
            case 15: return desk.layer(n, m, 0);
            case 16: return desk.layer(0, n, m);
            case 17: return desk.layerAt(n, m);
            case 18: return desk.layerAt(0, n);
            case 19: return desk.side(n, m);
            case 20: return desk.match(n, m);
            case 21: return desk.pairOf(n);
            case 22: return desk.tree(n, m);
            case 23: return desk.bedOf(n, m);
            case 24: return desk.holesOf(n);
            case 25: return desk.bed(n, m, 0);
            case 26: return desk.bed(0, n, m);
            case 27: return desk.above(n, m);
            case 28: return desk.order(n);
            case 29: return one(desk.area(n));
            case 30: return desk.across(n);
            case 31: return desk.triangleAt(n, m);
            case 32: return one(desk.topAt(n, m, m));
            case 33: return one(desk.topAt(0, n, m));
            case 34: return one(desk.thickAt(n, m, m));
            case 35: return one(desk.thickAt(0, n, m));
            case 36: return one(desk.volume(n, m));
            case 37: return one(desk.volumeOf(n));
            case 38: return one(desk.tilt(n, m, 0));
            case 39: return one(desk.tilt(0, n, m));
            case 40: return desk.deepest(n);
            case 41: return desk.shared(n, m);
            case 42: return desk.gaps(n);
            case 43: return desk.draws(n, m);
            case 44: return desk.picks(n, m, 3, 1);
            case 45: return desk.picks(1, 3, n, m);
            case 46: return desk.pickAt(n);
            case 47: return desk.fill(n, m);
            case 48: return desk.runs(n, m);
            case 49: return desk.agrees(n, m, 0);
            case 50: return desk.agrees(0, n, m);
            case 51: long by = desk.shift(n, 3, m, 0);
                return desk.status() == 0 ? 0 : by;
            case 52: return desk.shift(0, n, 0, m) < 0 && desk.status() == 0 ? 0 : desk.shift(0, n, 0, m);
            case 53: return desk.likest(n, m);
            case 54: return desk.lay(n, m, 5);
            case 55: return desk.lay(0, 0, n);
            case 56: return desk.wear(n, m);
            case 57: return one(desk.throwing(n, m));
            case 58: return desk.lived(n);
            default: return one(desk.odds(0, 0, n, m));
        }
    }

    // Part 5: "changes nothing else" - nor does a call that answers alone
    private static void answersAloneChangeNothing() {
        List<String> due = Picture.of(Picture.full());
        for (Map.Entry<String, ToLongFunction<BoreDesk>> call : answers().entrySet()) {
            BoreDesk desk = Picture.full();
            call.getValue().applyAsLong(desk);
            Desk.due(call.getKey() + " changes nothing", Picture.of(desk).equals(due), true);
        }
    }

    // Part 5: "(but field(), years() with 9 the tape, and what fault() tells)"
    private static void tapeAndFaultAlone() {
        List<String> due = Picture.withoutFault(Picture.withoutTape());
        for (int n = 1; n <= 40; n++) {
            BoreDesk desk = Picture.full();
            Desk.due(desk, "years of " + n, desk.years(n), -1, 9);
            Desk.due("a fault of years of " + n, desk.fault(0), 2);
            Desk.due("its place in years of " + n, desk.fault(1), 0);
            Desk.due("years of " + n + " empty the tape alone", Picture.withoutFault(desk).equals(due), true);
            BoreDesk other = Picture.full();
            if (n < 7 || n > 7 && n < 21 || n > 33) {
                Desk.due(other, "field of " + n, other.field(n), -1, 9);
                Desk.due("a fault of field of " + n, other.fault(0), n >= 39 ? 1 : 2);
                Desk.due("field of " + n + " empties the tape alone", Picture.withoutFault(other).equals(due), true);
            }
        }
    }

    // Part 5: "STATUS of a call is the first of these that holds"
    private static void theFirstThatHolds() {
        Picture.refused("1 ahead of 2: draws", desk -> desk.draws(9, 3), 1);
        Picture.denied("1 ahead of 2: write", desk -> desk.write(9, 3, 3), 1);
        Picture.denied("2 ahead of 3: write", desk -> desk.write(3, 99, 3), 2);
        Picture.refused("2 ahead of 3: fill", desk -> desk.fill(3, 60), 2);
        Picture.refused("3 ahead of 5: runs", desk -> desk.runs(2, 60), 3);
        Picture.refused("1 ahead of 6: bed", desk -> desk.bed(0, 3, 7), 1);
        Picture.refused("1 ahead of 6: tree", desk -> desk.tree(-1, -1), 1);
        Picture.denied("1 ahead of 6: topAt", desk -> desk.topAt(99, 999, 999), 1);
        Picture.denied("1 ahead of 7: tilt", desk -> desk.tilt(0, 1, 2), 1);
        Picture.denied("1 ahead of 7: volume", desk -> desk.volume(99, 1), 1);
        Picture.denied("6 ahead of 7: topAt", desk -> desk.topAt(1, 500, 500), 6);
        Picture.denied("8 ahead of 3: pour", desk -> desk.pour(0, 99, 2, 99, 99), 8);
        BoreDesk fresh = new BoreDesk();
        Desk.due(fresh, "1 ahead of 6: live", fresh.live(-1), -1, 1);
        Desk.due(fresh, "1 ahead of 6: lived", fresh.lived(-1), -1, 1);
        Desk.due(fresh, "1 ahead of 6: order", fresh.order(-1), -1, 1);
        Desk.due(fresh, "1 ahead of 6: odds", fresh.odds(0, 0, 0, 1), false, 1);
        Desk.due(fresh, "2 ahead of 6: likest", fresh.likest(0, 1), -1, 2);
    }

    // Part 5: "1 a number that can't be; no such TRAY, ROCK, HOLE, LAYER, TRIANGLE, FAULT, BED."
    // Part 5: "2 the TRAY is MISSING."
    // Part 5: "5 a number in a TRAY that can't be."
    // Part 5: "7 it can't be."
    // Part 5: "9 a FAULT of a text."
    private static void eachStatus() {
        Picture.refused("a number that can't be", desk -> desk.told(4), 1);
        Picture.refused("no such tray", desk -> desk.read(4, 0), 1);
        Picture.refused("no such rock", desk -> desk.skip(3), 1);
        Picture.refused("no such hole", desk -> desk.gaps(4), 1);
        Picture.refused("no such layer", desk -> desk.bedOf(0, 3), 1);
        Picture.refused("no such triangle", desk -> desk.across(2), 1);
        Picture.refused("no such fault", desk -> desk.side(1, 0), 1);
        Picture.refused("no such bed", desk -> desk.deepest(4), 1);
        Picture.refused("a missing tray", desk -> desk.read(3, 0), 2);
        Picture.refused("a place that it has not", desk -> desk.read(0, 4), 3);
        Picture.refused("too few numbers", desk -> desk.runs(0, 5), 3);
        Picture.refused("a number in a tray", desk -> desk.runs(2, 1), 5);
        Picture.refused("none such", desk -> desk.pickAt(2), 6);
        Picture.denied("it can't be", desk -> desk.volume(0, 1), 7);
        Picture.denied("unlike sorts", desk -> desk.pour(0, 0, 2, 0, 1), 8);
        Picture.noField(2, "^thick");
        Picture.noYears(2, "^thick");
    }

    // Promise 57: "A MARK more: how many there are (4)."
    // Part 4: "MARKS, at most 3"
    private static void marksMost() {
        BoreDesk desk = new BoreDesk();
        for (int many = 1; many <= 3; many++) {
            Desk.due(desk, "mark " + many, desk.mark(), many, 0);
        }
        Desk.due(desk, "a fourth", desk.mark(), -1, 4);
        Desk.due(desk, "a fourth again", desk.mark(), -1, 4);
        Desk.due(desk, "two are left", desk.back(), 2, 0);
        Desk.due(desk, "a third anew", desk.mark(), 3, 0);
        Desk.due(desk, "no fourth", desk.mark(), -1, 4);
    }

    // Part 5: "4 one too many."
    private static void marksRefused() {
        Picture.refused("a fourth mark", Picture::withThreeMarks, desk -> desk.mark(), 4);
        BoreDesk desk = Desk.with(Picture.FIELD);
        for (int layer = 0; layer < 3; layer++) {
            desk.mark();
            desk.wear(3, 1);
            desk.lay(3, layer, 10 + layer);
        }
        Desk.due(desk, "a fourth", desk.mark(), -1, 4);
        Desk.due("as it was", desk.hole(3, 3), 10 - 1 + 11 - 1 + 12);
        desk.back();
        Desk.due("the third is as it was kept", desk.hole(3, 3), 10 - 1 + 11);
    }

    // Promise 58: "All is taken back to the latest MARK: how many there are left (6)."
    private static void backToTheLatest() {
        BoreDesk desk = Desk.with(Picture.FIELD);
        for (int many = 1; many <= 3; many++) {
            desk.lay(3, 2, many);
            Desk.due(desk, "mark " + many, desk.mark(), many, 0);
        }
        desk.lay(3, 2, 50);
        int[] due = {7, 4, 2};
        for (int left = 2; left >= 0; left--) {
            Desk.due(desk, "left " + left, desk.back(), left, 0);
            Desk.due(desk, "taken back with " + left + " left", desk.hole(3, 3), due[2 - left], 0);
        }
        Desk.due(desk, "none is left", desk.back(), -1, 6);
        Desk.due(desk, "as it was at the first", desk.hole(3, 3), 2, 0);
    }

    // Part 5: "6 there is none such."
    private static void backOfNone() {
        BoreDesk fresh = new BoreDesk();
        Desk.due(fresh, "a new object", fresh.back(), -1, 6);
        Picture.refused("behind all marks", () -> {
            BoreDesk desk = Picture.full();
            desk.back();
            desk.back();
            return desk;
        }, desk -> desk.back(), 6);
    }

    // Part 4: "the FIELD with all that became of it, and the YEARS are kept as they are"
    private static void backOfWhatBecame() {
        BoreDesk desk = Picture.withoutTape();
        List<String> due = Picture.withoutFault(Picture.withoutTape());
        desk.mark();
        desk.lay(0, 1, 99);
        desk.lay(0, 2, 99);
        desk.wear(1, 99);
        desk.wear(2, 99);
        desk.wear(3, 99);
        desk.throwing(0, 0);
        Desk.due(desk, "back", desk.back(), 2, 0);
        Desk.due("layers and throws are as they were", Picture.withoutFault(desk).equals(due), true);
    }

    // Part 4: "all is taken back to the latest MARK, which is gone then."
    private static void backAcrossFields() {
        BoreDesk desk = Picture.withoutTape();
        List<String> due = Picture.withoutFault(Picture.withoutTape());
        desk.mark();
        Desk.field(desk, "rock x skip 9;rock y skip 8;rock z skip 7;unlike x y costs 1;hole o at 9 9 bed x thick 9;hole p at 99 9;hole q at 99 99;"
                + "triangle o p q;triangle q p o;triangle p o q;fault r from 3 3 to 4 4 throws 9;fault s from 3 3 to 4 4 throws 9;");
        Desk.due(desk, "another field", desk.told(2), 3, 0);
        Desk.due(desk, "back", desk.back(), 2, 0);
        Desk.due("field and years are as they were", Picture.withoutFault(desk).equals(due), true);
        BoreDesk names = Desk.with(Picture.FIELD);
        names.mark();
        Desk.field(names, "rock x;hole o at 9 9;");
        names.back();
        Desk.due(names, "its names are known", Desk.years(names, "lay j c 5;move f 5;"), 2, 0);
        Desk.due(names, "the others are not", Desk.years(names, "lay o x 5;"), -1, 9);
    }

    // Part 4: "and the YEARS are kept as they are" - those that there are, and that there are none
    private static void backOfYears() {
        BoreDesk desk = Desk.with(Picture.FIELD);
        desk.mark();
        Desk.years(desk, "lay j c 5;");
        desk.mark();
        Desk.years(desk, "lay j c 7;lay j c 9;");
        desk.mark();
        Desk.years(desk, "");
        Desk.due(desk, "of no steps", desk.live(0), 0, 0);
        desk.back();
        Desk.due(desk, "of two steps", desk.live(0), 2, 0);
        Desk.due(desk, "they are the second", desk.hole(3, 3), 17, 0);
        desk.back();
        Desk.due(desk, "of one step", desk.live(0), 1, 0);
        Desk.due(desk, "it is the first", desk.hole(3, 3), 6, 0);
        desk.back();
        Desk.due(desk, "none", desk.live(0), -1, 6);
        Desk.due(desk, "nothing laid", desk.hole(3, 3), 1, 0);
    }

    // Promise 58: "All is taken back to the latest MARK" - of a new object
    private static void backOfNothing() {
        BoreDesk desk = new BoreDesk();
        desk.mark();
        Desk.field(desk, Picture.FIELD);
        Desk.years(desk, "stop;");
        Desk.due(desk, "back", desk.back(), 0, 0);
        for (int what = 0; what <= 3; what++) {
            Desk.due(desk, "nothing told " + what, desk.told(what), 0, 0);
        }
        Desk.due(desk, "no beds", desk.beds(), 0, 0);
        Desk.due(desk, "no years", desk.live(0), -1, 6);
    }
}
