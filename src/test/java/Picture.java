import java.util.ArrayList;
import java.util.List;
import java.util.function.Predicate;
import java.util.function.Supplier;
import java.util.function.ToLongFunction;

/** All that a desk tells, and calls that must be refused and leave all of it as it is. */
final class Picture {
    static final String FIELD = "rock a skip 3;rock b;rock c skip 0;unlike a b costs 4;"
            + "hole g at 0 0 bed a thick 4 bed b thick 2 bed c thick 6;"
            + "hole h at 6 0 bed a thick 5 bed c thick 6;"
            + "hole i at 0 8 bed a thick 3 bed c thick 4;"
            + "hole j at 60 80 bed c thick 1;"
            + "triangle g h i;triangle h j i;"
            + "fault f from 10 90 to 10 10 throws 7;";
    static final int ROCKS = 3;
    static final int HOLES = 4;
    static final int TRIANGLES = 2;
    static final int FAULTS = 1;

    private final List<String> lines = new ArrayList<>();
    private final BoreDesk desk;

    private Picture(BoreDesk desk) {
        this.desk = desk;
    }

    /** A desk with something in every part of it but the tape; tray 3 is missing. */
    static BoreDesk withoutTape() {
        BoreDesk desk = new BoreDesk();
        Desk.due("the field is taken", Desk.field(desk, FIELD), HOLES);
        Desk.due("the years are taken", Desk.years(desk, "lay g b 2;storm 5;move f 3;move f 99;"), 4);
        Desk.due("a mark", desk.mark(), 1);
        Desk.due("laid on", desk.lay(1, 1, 9), 3);
        Desk.due("a second mark", desk.mark(), 2);
        Desk.due("lived", desk.live(5), 4);
        Desk.due("worn off", desk.wear(0, 1), 1);
        Desk.write(desk, 1, 2, 9, -1, 8, 3, 9);
        desk.tray(0, 0, 4);
        desk.write(0, 0, 1);
        desk.write(0, 1, -1);
        desk.write(0, 2, 2);
        desk.tray(2, 2, 2);
        desk.write(2, 0, -2);
        desk.write(2, 1, 1000000);
        Desk.due("picks", desk.picks(1, 6, 5, 1), 2);
        Desk.due("a match", desk.match(0, 1) >= 0, true);
        Desk.due("a fraction", desk.area(1), true);
        Desk.due("a fault of years", Desk.years(desk, "lay x"), -1);
        return desk;
    }

    /** The same desk with bytes on its tape. */
    static BoreDesk full() {
        BoreDesk desk = withoutTape();
        Desk.feed(desk, "rock z;hole y at 5 5;            rock !");
        return desk;
    }

    /** The same desk with a third mark. */
    static BoreDesk withThreeMarks() {
        BoreDesk desk = full();
        Desk.due("a third mark", desk.mark(), 3);
        return desk;
    }

    static void refused(String what, ToLongFunction<BoreDesk> call, int status) {
        refused(what, Picture::full, call, status);
    }

    static void denied(String what, Predicate<BoreDesk> call, int status) {
        denied(what, Picture::full, call, status);
    }

    /** A call that gives false. */
    static void denied(String what, Supplier<BoreDesk> made, Predicate<BoreDesk> call, int status) {
        refused(what, made, desk -> call.test(desk) ? 1 : -1, status);
    }

    /** A call that gives NONE with a STATUS: all else is as on a desk of which it was not asked. */
    static void refused(String what, Supplier<BoreDesk> made, ToLongFunction<BoreDesk> call, int status) {
        BoreDesk desk = made.get();
        Desk.due(desk, what, call.applyAsLong(desk), -1, status);
        same(what, of(desk), of(made.get()));
    }

    /** A text that is no field: ^ stands at its fault. */
    static void noField(int kind, String marked) {
        noText(kind, marked, false);
    }

    /** A text that is no years. */
    static void noYears(int kind, String marked) {
        noText(kind, marked, true);
    }

    /** The tape is empty behind it, the fault is told, and all else is as it was. */
    private static void noText(int kind, String marked, boolean isOfYears) {
        int place = marked.indexOf('^');
        String text = marked.replace("^", "");
        BoreDesk desk = withoutTape();
        int bytes = Desk.feed(desk, text);
        Desk.due(desk, "refused: " + marked, isOfYears ? desk.years(bytes) : desk.field(bytes), -1, 9);
        Desk.due("kind of " + marked, desk.fault(0), kind);
        Desk.due("place of " + marked, desk.fault(1), place);
        same(marked, withoutFault(desk), withoutFault(withoutTape()));
    }

    /** A text of one byte: a blank is taken, all else is no whole text. */
    static void everyByteAlone(boolean isOfYears) {
        for (int b = 0; b <= 255; b++) {
            BoreDesk desk = new BoreDesk();
            boolean blank = b == 10 || b == 32;
            boolean token = b >= 'a' && b <= 'z' || b >= '0' && b <= '9' || b == ';' || b == '<' || b == '>' || b == '=';
            desk.feed(b << 24, 0, 0, 0, 0);
            Desk.due(desk, "byte " + b, isOfYears ? desk.years(1) : desk.field(1), blank ? 0 : -1, blank ? 0 : 9);
            Desk.due("fault of byte " + b, desk.fault(0), blank ? 0 : token ? 2 : 1);
            Desk.due("place of byte " + b, desk.fault(1), blank ? -1 : 0);
        }
    }

    private static void same(String what, List<String> got, List<String> due) {
        Desk.due(what + ": as many lines", got.size(), due.size());
        for (int i = 0; i < due.size() && i < got.size(); i++) {
            boolean same = due.get(i).equals(got.get(i));
            Desk.due(what + " changed: " + due.get(i) + " to " + got.get(i), same, true);
        }
    }

    /** What the desk tells of itself; the desk is not what it was then. */
    static List<String> of(BoreDesk desk) {
        Picture picture = new Picture(desk);
        picture.add("fault", desk.fault(0));
        picture.add("fault's place", desk.fault(1));
        picture.lines();
        return picture.lines;
    }

    /** The same without what fault() tells. */
    static List<String> withoutFault(BoreDesk desk) {
        Picture picture = new Picture(desk);
        picture.lines();
        return picture.lines;
    }

    private void lines() {
        latest();
        trays();
        ground();
        layers();
        beds();
        add("bytes on the tape", desk.feed(0x20202020, 0x20202020, 0x20202020, 0x20202020, 0x20202020));
        marksAndYears();
        tape();
    }

    private void add(String what, long answer) {
        lines.add(what + " " + answer);
    }

    private void ask(String what, long answer) {
        lines.add(what + " " + answer + " STATUS " + desk.status());
    }

    private void latest() {
        add("top", desk.top());
        add("bottom", desk.bottom());
        ask("pairs", desk.pairs());
        for (int i = 0; i < 5; i++) {
            ask("pairOf " + i, desk.pairOf(i));
            ask("pickAt " + i, desk.pickAt(i));
        }
        for (int what = 0; what < 4; what++) {
            ask("lived " + what, desk.lived(what));
        }
    }

    private void trays() {
        for (int tray = 0; tray < 4; tray++) {
            for (int place = 0; place < 8; place++) {
                ask("tray " + tray + " " + place, desk.read(tray, place));
            }
            for (int other = tray + 1; other < 4; other++) {
                ask("sorts of " + tray + " " + other, desk.pour(tray, 0, other, 0, 0) ? 1 : 0);
            }
        }
    }

    private void ground() {
        for (int what = 0; what < 4; what++) {
            ask("told " + what, desk.told(what));
        }
        for (int rock = 0; rock < ROCKS; rock++) {
            ask("skip " + rock, desk.skip(rock));
            ask("unlike " + rock, desk.unlike(rock, (rock + 1) % ROCKS));
        }
        for (int triangle = 0; triangle < TRIANGLES; triangle++) {
            ask("area " + triangle, desk.area(triangle) ? desk.top() : -1);
            ask("across " + triangle, desk.across(triangle));
        }
    }

    private void layers() {
        for (int hole = 0; hole < HOLES; hole++) {
            for (int what = 0; what < 5; what++) {
                ask("hole " + hole + " " + what, desk.hole(hole, what));
            }
            for (int layer = 0; layer < 4; layer++) {
                ask("rock " + hole + " " + layer, desk.layer(hole, layer, 0));
                ask("thick " + hole + " " + layer, desk.layer(hole, layer, 1));
            }
        }
    }

    private void beds() {
        ask("beds", desk.beds());
        ask("treeCost", desk.treeCost());
        for (int bed = 0; bed < 4; bed++) {
            ask("holesOf " + bed, desk.holesOf(bed));
        }
    }

    private void marksAndYears() {
        ask("a mark more", desk.mark());
        for (int mark = 0; mark < 4; mark++) {
            ask("live " + mark, desk.live(mark));
            whatBecame("lived");
            ask("back " + mark, desk.back());
            whatBecame("back");
        }
    }

    private void whatBecame(String ahead) {
        for (int hole = 0; hole < HOLES; hole++) {
            ask(ahead + " all of " + hole, desk.hole(hole, 3));
        }
        ask(ahead + " thrown", desk.hole(0, 4));
    }

    private void tape() {
        ask("of the tape's bytes", desk.field(20));
        ask("now told", desk.told(1));
        add("its fault", desk.fault(0));
        add("its place", desk.fault(1));
    }
}
