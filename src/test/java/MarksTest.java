/** Promises 57 and 58: MARKS. */
public final class MarksTest {
    private static final String GROUND = "rock a;rock b skip 7;hole g at 0 0 bed a thick 4;hole h at 9 0 bed a thick 3;"
            + "fault f from 5 0 to 5 9 throws 10;";

    public static void main(String[] args) {
        howMany();
        takenBack();
        acrossFields();
        whatStays();
        Desk.end();
    }

    private static void howMany() {
        BoreDesk desk = new BoreDesk();
        Desk.due(desk, "none", desk.back(), -1, 6);
        for (int i = 1; i <= 3; i++) {
            Desk.due(desk, "mark", desk.mark(), i, 0);
        }
        Desk.due(desk, "a fourth", desk.mark(), -1, 4);
        for (int i = 2; i >= 0; i--) {
            Desk.due(desk, "back", desk.back(), i, 0);
        }
        Desk.due(desk, "none is left", desk.back(), -1, 6);
        Desk.due(desk, "a mark anew", desk.mark(), 1, 0);
    }

    private static void takenBack() {
        BoreDesk desk = Desk.with(GROUND);
        Desk.years(desk, "lay g b 5;");
        desk.lay(0, 1, 2);
        desk.mark();
        desk.throwing(0, 50);
        desk.wear(0, 99);
        desk.mark();
        Desk.years(desk, "lay h b 5;lay h a 5;");
        desk.live(0);
        Desk.due("layers", desk.hole(1, 2), 3);
        Desk.due("one is left", desk.back(), 1);
        Desk.due("layers are taken back", desk.hole(1, 2), 1);
        Desk.due("worn off", desk.hole(0, 3), 0);
        Desk.due("thrown", desk.hole(1, 4), 50);
        Desk.due("beds", desk.beds(), 1);
        Desk.due("the years are the old ones", desk.live(0), 1);
        Desk.due("they lay on g", desk.hole(0, 3), 5);
        Desk.due("none is left", desk.back(), 0);
        Desk.due("all of g", desk.hole(0, 3), 6);
        Desk.due("rock of g", desk.layer(0, 0, 0), 1);
        Desk.due("thrown as at first", desk.hole(1, 4), 10);
        Desk.due("beds again", desk.beds(), 2);
        desk.lay(0, 0, 1);
        desk.mark();
        desk.wear(0, 99);
        desk.back();
        Desk.due("a later mark", desk.hole(0, 3), 7);
    }

    private static void acrossFields() {
        BoreDesk desk = Desk.with(GROUND);
        Desk.years(desk, "lay g b 5;move f 3;");
        desk.mark();
        Desk.field(desk, "rock x skip 1;rock y;rock z;hole k at 1 2;hole l at 3 4;hole m at 7 9;triangle k l m;");
        desk.mark();
        Desk.field(desk, "rock q;rock s;rock t;hole u at 0 0;hole v at 1 1;hole w at 0 1;"
                + "fault e from 0 0 to 1 1 throws 1;fault d from 0 0 to 1 1 throws 1;");
        Desk.due("other holes", desk.told(1), 3);
        desk.back();
        Desk.due("three holes", desk.told(1), 3);
        Desk.due("a triangle", desk.told(2), 1);
        Desk.due("its rock", desk.skip(0), 1);
        Desk.due(desk, "no years there", desk.live(0), -1, 6);
        Desk.due("its names", Desk.years(desk, "lay k x 5;lay m z 3;"), 2);
        Desk.due("lived there", desk.live(0), 2);
        Desk.field(desk, "rock q;rock s;hole u at 0 0;hole v at 1 1;fault e from 0 0 to 1 1 throws 1;");
        desk.back();
        Desk.due("two holes", desk.told(1), 2);
        Desk.due("a fault", desk.told(3), 1);
        Desk.due("no triangle", desk.told(2), 0);
        Desk.due("its rocks", desk.skip(1), 7);
        Desk.due(desk, "with the years", desk.live(0), 2, 0);
        Desk.due("moved", desk.hole(1, 4), 13);
        Desk.due("names are known again", Desk.years(desk, "lay g b 5;move f 3;"), 2);
        Desk.years(desk, "lay k x 5;");
        Desk.due("those are not", desk.fault(0), 3);
    }

    /** The FIELD and the YEARS alone are taken back. */
    private static void whatStays() {
        BoreDesk desk = Desk.with(GROUND);
        desk.mark();
        desk.match(0, 1);
        Desk.write(desk, 2, 0, 5);
        desk.picks(2, 2, 3, 1);
        Desk.field(desk, "hole");
        desk.feed(0, 0, 0, 0, 0);
        Desk.fraction(desk, "volume", desk.volumeOf(0), 0, 1);
        desk.back();
        Desk.due("the match", desk.pairOf(0), 0);
        Desk.due("the tray", desk.read(2, 1), 5);
        Desk.due("the pick", desk.pickAt(0), 1);
        Desk.due("the fault", desk.fault(1), 4);
        Desk.due("the tape", desk.feed(0, 0, 0, 0, 0), 40);
    }
}
