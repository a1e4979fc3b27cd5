/** A first desk: a field is told as a text, asked about, lived through some years, and taken back to a mark. */
public final class FirstDesk {
    private static final String FIELD = "rock sand skip 3; rock clay; rock coal skip 0; unlike sand clay costs 4;\n"
            + "hole mid at 0 0 bed sand thick 4 bed clay thick 2 bed coal thick 6;\n"
            + "hole east at 6 0 bed sand thick 5 bed coal thick 6;\n"
            + "hole north at 0 8 bed sand thick 3 bed coal thick 4;\n"
            + "hole far at 60 80 bed coal thick 1;\n"
            + "triangle mid east north; triangle east far north;\n"
            + "fault rift from 10 90 to 10 10 throws 7;\n";
    private static final String YEARS = "lay mid clay 2; storm 5; when has far coal; lay far sand 9; end;";

    public static void main(String[] args) {
        BoreDesk desk = new BoreDesk();
        int holes = desk.field(feed(desk, FIELD));
        if (holes == BoreDesk.NONE) {
            System.out.println("STATUS " + desk.status() + ", fault " + desk.fault(0) + " at byte " + desk.fault(1));
            return;
        }
        System.out.println(holes + " holes, " + desk.told(2) + " triangles, " + desk.beds() + " beds");
        System.out.println("mid and east match at a cost of " + desk.match(0, 1) + ": " + desk.pairs() + " pairs");

        int coal = desk.bedOf(0, 2);
        System.out.println("coal is deepest in hole " + desk.deepest(coal));
        System.out.println("top of coal at 1, 1: " + fraction(desk, desk.topAt(coal, 1, 1)));
        System.out.println("volume of coal: " + fraction(desk, desk.volumeOf(coal)));
        System.out.println("volume of coal in triangle 1: " + fraction(desk, desk.volume(coal, 1)));

        desk.mark();
        desk.years(feed(desk, YEARS));
        System.out.println("far keeps coal: " + fraction(desk, desk.odds(3, 2, 0, 10)));
        System.out.println("lived " + desk.live(5) + " steps: " + desk.lived(1) + " laid, " + desk.lived(2) + " worn off");
        System.out.println("mid is " + desk.hole(0, 3) + " thick");
        desk.back();
        System.out.println("mid is " + desk.hole(0, 3) + " thick again");
    }

    /** Feeds a text of characters 0 to 255, twenty bytes at a time: how many of them field() or years() should take. */
    static int feed(BoreDesk desk, String text) {
        for (int i = 0; i < text.length(); i += 20) {
            int fed = desk.feed(four(text, i), four(text, i + 4), four(text, i + 8), four(text, i + 12), four(text, i + 16));
            if (fed == BoreDesk.NONE) {
                return BoreDesk.NONE;
            }
        }
        return text.length();
    }

    /** Four characters as one int, the first the highest; blanks behind the text's end. */
    private static int four(String text, int from) {
        int four = 0;
        for (int i = from; i < from + 4; i++) {
            four = four << 8 | (i < text.length() ? text.charAt(i) : ' ');
        }
        return four;
    }

    private static String fraction(BoreDesk desk, boolean told) {
        return told ? desk.top() + "/" + desk.bottom() : "none, STATUS " + desk.status();
    }
}
