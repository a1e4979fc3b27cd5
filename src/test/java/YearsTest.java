/** Promises 51 to 56: what is laid, what wears off, what FAULTS throw, LIVED years, odds. */
public final class YearsTest {
    private static final String GROUND = "rock a;rock b;hole g at 0 0 bed a thick 4 bed b thick 2;hole h at 9 0;"
            + "fault f from 5 0 to 5 9 throws 900;";

    public static void main(String[] args) {
        laying();
        wearing();
        throwing();
        steps();
        storms();
        whens();
        loops();
        threeHundred();
        missed();
        livedStays();
        odds();
        Desk.end();
    }

    private static void laying() {
        BoreDesk desk = Desk.with(GROUND);
        Desk.due(desk, "as much more", desk.lay(0, 0, 99), 2, 0);
        Desk.due("thick", desk.layer(0, 0, 1), 103);
        Desk.due(desk, "a new one", desk.lay(0, 1, 1), 3, 0);
        layers(desk, 0, 1, 1, 0, 103, 1, 2);
        Desk.due(desk, "on none", desk.lay(1, 0, 7), 1, 0);
        layers(desk, 1, 0, 7);
        Desk.due(desk, "hole -1", desk.lay(-1, 0, 1), -1, 1);
        Desk.due(desk, "hole 2", desk.lay(2, 0, 1), -1, 1);
        Desk.due(desk, "rock -1", desk.lay(0, -1, 1), -1, 1);
        Desk.due(desk, "rock 2", desk.lay(0, 2, 1), -1, 1);
        Desk.due(desk, "thick 0", desk.lay(0, 0, 0), -1, 1);
        Desk.due(desk, "thick 100", desk.lay(0, 0, 100), -1, 1);
        for (int i = 0; i < 11; i++) {
            desk.lay(1, (i + 1) % 2, 1);
        }
        Desk.due("twelve", desk.hole(1, 2), 12);
        Desk.due(desk, "a 13th", desk.lay(1, 0, 1), -1, 4);
        Desk.due("unchanged", desk.hole(1, 3), 18);
        Desk.due(desk, "no 13th", desk.lay(1, 1, 1), 12, 0);
        Desk.due("more of it", desk.layer(1, 0, 1), 2);
        Desk.due("that below is as it was", desk.layer(1, 1, 1), 1);
        for (int i = 0; i < 10; i++) {
            desk.lay(1, 1, 99);
        }
        Desk.due("992 thick", desk.layer(1, 0, 1), 992);
        Desk.due(desk, "above 999", desk.lay(1, 1, 8), -1, 7);
        Desk.due("unchanged, too", desk.layer(1, 0, 1), 992);
        Desk.due(desk, "999", desk.lay(1, 1, 7), 12, 0);
    }

    private static void layers(BoreDesk desk, int hole, int... rocksAndThick) {
        Desk.due("layers of " + hole, desk.hole(hole, 2), rocksAndThick.length / 2);
        for (int i = 0; i < rocksAndThick.length; i++) {
            Desk.due("layer " + i / 2 + " of " + hole, desk.layer(hole, i / 2, i % 2), rocksAndThick[i]);
        }
    }

    private static void wearing() {
        BoreDesk desk = Desk.with(GROUND);
        Desk.due(desk, "a part", desk.wear(0, 1), 1, 0);
        layers(desk, 0, 0, 3, 1, 2);
        Desk.due(desk, "a whole layer", desk.wear(0, 3), 3, 0);
        layers(desk, 0, 1, 2);
        desk.lay(0, 0, 5);
        Desk.due(desk, "one and a part", desk.wear(0, 6), 6, 0);
        layers(desk, 0, 1, 1);
        Desk.due("the depth is from what is left", desk.layer(0, 0, 2), 0);
        Desk.due(desk, "all there is", desk.wear(0, 99), 1, 0);
        Desk.due(desk, "nothing is left", desk.wear(0, 99), 0, 0);
        Desk.due("no layers", desk.hole(0, 2), 0);
        Desk.due(desk, "hole 2", desk.wear(2, 1), -1, 1);
        Desk.due(desk, "hole -1", desk.wear(-1, 1), -1, 1);
        Desk.due(desk, "thick 0", desk.wear(0, 0), -1, 1);
        Desk.due(desk, "thick 100", desk.wear(0, 100), -1, 1);
    }

    private static void throwing() {
        BoreDesk desk = Desk.with(GROUND);
        Desk.due("as told", desk.hole(1, 4), 900);
        Desk.due(desk, "nothing", desk.throwing(0, 0), true, 0);
        Desk.due("thrown nothing", desk.hole(1, 4), 0);
        Desk.due(desk, "most", desk.throwing(0, 999), true, 0);
        Desk.due("thrown most", desk.hole(1, 4), 999);
        Desk.due(desk, "1000", desk.throwing(0, 1000), false, 1);
        Desk.due(desk, "-1", desk.throwing(0, -1), false, 1);
        Desk.due(desk, "fault 1", desk.throwing(1, 0), false, 1);
        Desk.due(desk, "fault -1", desk.throwing(-1, 0), false, 1);
        Desk.due("unchanged", desk.hole(1, 4), 999);
    }

    private static BoreDesk living(String years) {
        BoreDesk desk = Desk.with(GROUND);
        Desk.due("years: " + years, Desk.years(desk, years) >= 0, true);
        return desk;
    }

    private static void lived(BoreDesk desk, int missed, int laid, int worn, int left) {
        int[] due = {missed, laid, worn, left};
        for (int what = 0; what < 4; what++) {
            Desk.due(desk, "lived " + what, desk.lived(what), due[what], 0);
        }
    }

    private static void steps() {
        BoreDesk desk = living("lay g b 5;lay g b 3;wear g 2;wear h 9;lay h a 9;move f 9;stop;lay g a 1;");
        Desk.due(desk, "not yet", desk.lived(0), -1, 6);
        Desk.due(desk, "steps", desk.live(0), 7, 0);
        lived(desk, 0, 17, 2, 0);
        layers(desk, 0, 1, 6, 0, 4, 1, 2);
        layers(desk, 1, 0, 9);
        Desk.due("moved", desk.hole(1, 4), 909);
        Desk.due(desk, "seed -1", desk.live(-1), -1, 1);
        Desk.due(desk, "seed 10,000", desk.live(10000), -1, 1);
        Desk.due(desk, "seed 9,999, from how it is now", desk.live(9999), 7, 0);
        layers(desk, 0, 1, 12, 0, 4, 1, 2);
        Desk.due(desk, "what -1", desk.lived(-1), -1, 1);
        Desk.due(desk, "what 4", desk.lived(4), -1, 1);
        BoreDesk none = living("");
        Desk.due(none, "years of no steps", none.live(0), 0, 0);
        lived(none, 0, 0, 0, 0);
        BoreDesk fresh = new BoreDesk();
        Desk.due(fresh, "no years", fresh.live(0), -1, 6);
        Desk.due(fresh, "1 ahead of 6", fresh.live(-1), -1, 1);
        Desk.due(fresh, "1 ahead of 6, lived", fresh.lived(4), -1, 1);
    }

    private static void storms() {
        BoreDesk desk = living("lay h a 99;loop 3;storm 20;end;");
        int seed = 77;
        int[] left = {6, 99};
        int worn = 0;
        for (int i = 0; i < 3; i++) {
            for (int hole = 0; hole < 2; hole++) {
                seed = (seed * 2777 + 9551) % 65536;
                int part = Math.min(left[hole], seed / 8 % 20);
                left[hole] -= part;
                worn += part;
            }
        }
        Desk.due(desk, "storms", desk.live(77), 5, 0);
        Desk.due("left of g", desk.hole(0, 3), left[0]);
        Desk.due("left of h", desk.hole(1, 3), left[1]);
        lived(desk, 0, 99, worn, 0);
        BoreDesk calm = living("storm 1;");
        Desk.due("one storm", calm.live(5), 1);
        Desk.due("by 1: nothing", calm.hole(0, 3), 6);
        // Seed 0: s becomes 9,551, by 8: 1,193, by 99: 5.
        BoreDesk known = living("storm 99;");
        known.live(0);
        Desk.due("the first draw", known.hole(0, 3), 1);
    }

    private static void whens() {
        when("deep g < 6", false);
        when("deep g < 7", true);
        when("deep g > 6", false);
        when("deep g > 5", true);
        when("deep g = 6", true);
        when("deep g = 5", false);
        when("deep h = 0", true);
        when("deep h > 0", false);
        when("deep g < 9999", true);
        when("has g a", true);
        when("has g b", true);
        when("has h a", false);
        when("top g a", true);
        when("top g b", false);
        when("top h a", false);
    }

    private static void when(String test, boolean holds) {
        BoreDesk desk = living("when " + test + ";lay h b 7;when " + test + ";end;end;lay g a 1;");
        Desk.due("steps of when " + test, desk.live(0), holds ? 4 : 2);
        Desk.due("when " + test, desk.hole(1, 3), holds ? 7 : 0);
        Desk.due("what is behind it", desk.hole(0, 3), 7);
    }

    private static void loops() {
        BoreDesk desk = living("loop 3;lay h a 1;loop 2;lay h b 1;end;end;");
        // 1, and 3 by 1, 1 and 2.
        Desk.due("steps", desk.live(0), 13);
        layers(desk, 1, 1, 2, 0, 1, 1, 2, 0, 1, 1, 2, 0, 1);
        BoreDesk stops = living("loop 9;lay h a 1;when deep h = 3;stop;end;end;lay h b 1;");
        Desk.due("stopped within", stops.live(0), 8);
        layers(stops, 1, 0, 3);
        lived(stops, 0, 3, 0, 0);
        BoreDesk empty = living("loop 99;loop 99;end;end;lay h a 1;");
        Desk.due("empty ones", empty.live(0), 101);
        layers(empty, 1, 0, 1);
        BoreDesk bare = living("loop 99;end;lay h a 1;");
        Desk.due("a bare one", bare.live(0), 2);
    }

    private static void threeHundred() {
        // 1 and 3 by 99: 298 steps.
        String first = "loop 99;lay h a 1;wear h 1;storm 1;end;";
        BoreDesk exact = living(first + "storm 1;storm 1;");
        Desk.due("300 steps", exact.live(0), 300);
        lived(exact, 0, 99, 99, 0);
        BoreDesk more = living(first + "storm 1;storm 1;storm 1;");
        Desk.due("300 of 301 steps", more.live(0), 300);
        lived(more, 0, 99, 99, 1);
        BoreDesk stop = living(first + "storm 1;storm 1;stop;");
        Desk.due("a stop is left", stop.live(0), 300);
        lived(stop, 0, 99, 99, 1);
        BoreDesk stopped = living(first + "storm 1;stop;storm 1;");
        Desk.due("the 300th is a stop", stopped.live(0), 300);
        lived(stopped, 0, 99, 99, 0);
        BoreDesk open = living(first + "storm 1;when has h a;lay h a 9;end;");
        Desk.due("the 300th is a when that holds not", open.live(0), 300);
        lived(open, 0, 99, 99, 0);
        BoreDesk within = living(first + "storm 1;when has g a;lay h a 9;end;");
        Desk.due("the 300th is a when that holds", within.live(0), 300);
        lived(within, 0, 99, 99, 1);
        Desk.due("what is left is not done", within.hole(1, 3), 0);
        BoreDesk last = living("loop 1;storm 1;" + first + "end;");
        Desk.due("only ends are left", last.live(0), 300);
        lived(last, 0, 99, 99, 0);
        BoreDesk round = living("loop 2;storm 1;" + first + "end;");
        Desk.due("one more round is left", round.live(0), 300);
        lived(round, 0, 99, 99, 1);
    }

    private static void missed() {
        BoreDesk desk = living("move f 90;move f 10;move f 9;move f 1;");
        Desk.due("steps, missed ones, too", desk.live(0), 4);
        Desk.due("thrown", desk.hole(1, 4), 999);
        lived(desk, 2, 0, 0, 0);
        BoreDesk many = living("loop 7;lay h a 1;lay h b 1;end;lay h b 5;");
        Desk.due("steps, a 13th", many.live(0), 16);
        // The 13th layer is missed; b comes on b then.
        Desk.due("twelve", many.hole(1, 2), 12);
        Desk.due("the top", many.layer(1, 0, 1), 7);
        lived(many, 1, 18, 0, 0);
        BoreDesk thick = living("loop 11;lay h a 90;end;lay h a 9;lay h a 1;");
        Desk.due("steps, above 999", thick.live(0), 14);
        layers(thick, 1, 0, 999);
        lived(thick, 1, 999, 0, 0);
    }

    private static void livedStays() {
        BoreDesk desk = living("lay h a 9;move f 99;move f 99;");
        desk.mark();
        desk.live(0);
        lived(desk, 1, 9, 0, 0);
        desk.live(-1);
        desk.odds(0, 0, 0, 1);
        desk.back();
        lived(desk, 1, 9, 0, 0);
        Desk.field(desk, "");
        Desk.due(desk, "no years", desk.live(0), -1, 6);
        lived(desk, 1, 9, 0, 0);
    }

    private static void odds() {
        BoreDesk desk = living("storm 10;when has g a;lay h a 3;end;");
        int having = 0;
        for (int seed = 40; seed < 50; seed++) {
            having += (seed * 2777 + 9551) % 65536 / 8 % 10 < 4 ? 1 : 0;
        }
        Desk.due("four draws are below 4", having, 4);
        Desk.fraction(desk, "odds", desk.odds(1, 0, 40, 10), 2, 5);
        Desk.fraction(desk, "the same again", desk.odds(1, 0, 40, 10), 2, 5);
        Desk.due("all stays", desk.hole(0, 3), 6);
        Desk.due("all stays, layers", desk.hole(1, 2), 0);
        Desk.due(desk, "nothing was lived", desk.lived(0), -1, 6);
        Desk.fraction(desk, "never", desk.odds(1, 1, 0, 3), 0, 1);
        Desk.fraction(desk, "the last seed", desk.odds(1, 1, 9999, 1), 0, 1);
        Desk.due(desk, "beyond it", desk.odds(1, 1, 9999, 2), false, 1);
        Desk.fraction(desk, "ten up to it", desk.odds(1, 1, 9990, 10), 0, 1);
        Desk.due(desk, "ten beyond it", desk.odds(1, 1, 9991, 10), false, 1);
        Desk.due(desk, "far beyond it", desk.odds(1, 1, Integer.MAX_VALUE, 10), false, 1);
        Desk.due(desk, "seed -1", desk.odds(0, 0, -1, 1), false, 1);
        Desk.due(desk, "many 0", desk.odds(0, 0, 0, 0), false, 1);
        Desk.due(desk, "many 11", desk.odds(0, 0, 0, 11), false, 1);
        Desk.due(desk, "hole 2", desk.odds(2, 0, 0, 1), false, 1);
        Desk.due(desk, "rock 2", desk.odds(0, 2, 0, 1), false, 1);
        BoreDesk fresh = Desk.with(GROUND);
        Desk.due(fresh, "no years", fresh.odds(0, 0, 0, 1), false, 6);
        Desk.due(fresh, "1 ahead of 6", fresh.odds(0, 0, 0, 11), false, 1);
        Desk.due("beds were not touched", desk.beds(), 2);
    }
}
