/** Bounds that the document names for the text of YEARS, what is laid, what wears off: its fourth part, promises 11 and 51 to 56. */
public final class BoundsOfYearsTest {
    private static final int LEAST = Integer.MIN_VALUE;
    private static final int MOST = Integer.MAX_VALUE;
    private static final int[] NO_HOLE = {-1, 4, 6, LEAST, MOST};
    private static final int[] NO_ROCK = {-1, 3, 8, LEAST, MOST};
    private static final String GROUND = "rock a;rock b;rock c;hole g at 0 0 bed a thick 4 bed b thick 2;hole h at 9 0;"
            + "fault f from 5 0 to 5 9 throws 900;";

    public static void main(String[] args) {
        yearsNumbers();
        yearsMost();
        everyByteAlone();
        tokensOfYears();
        yearsEmptyTheTape();
        noneAtFirst();
        stepsAnyNumberOfTimes();
        layText();
        wearText();
        stormText();
        moveText();
        deepText();
        hasAndTopText();
        loopText();
        stopText();
        kindOneAndTwo();
        kindTwoAtTheEnd();
        endsWithoutBeginning();
        kindThree();
        kindFour();
        thirtySteps();
        withinThreeOthers();
        theLeastKind();
        theOldOnesStay();
        layRefused();
        layMore();
        layA13th();
        layAbove999();
        wearRefused();
        wearAllThereIs();
        throwingRefused();
        liveNumbers();
        liveNoYears();
        liveFromHowAllIs();
        layMissed();
        layMissedAbove999();
        moveMissed();
        storms();
        draws();
        comparisons();
        deepMost();
        tests();
        loops();
        threeHundred();
        stopAmongThem();
        livedNumbers();
        livedWhat();
        livedLatest();
        oddsNumbers();
        oddsLast();
        oddsNoYears();
        oddsStays();
        Desk.end();
    }

    private static BoreDesk living(String years) {
        BoreDesk desk = Desk.with(GROUND);
        Desk.due("years: " + years, Desk.years(desk, years) >= 0, true);
        return desk;
    }

    private static void taken(String years, int steps) {
        BoreDesk desk = Desk.with(GROUND);
        Desk.due(desk, "years: " + years, Desk.years(desk, years), steps, 0);
        Desk.due("no fault in " + years, desk.fault(0), 0);
        Desk.due("no place in " + years, desk.fault(1), -1);
    }

    private static void lived(BoreDesk desk, String what, int... due) {
        for (int i = 0; i < 4; i++) {
            Desk.due(desk, what + ", lived " + i, desk.lived(i), due[i], 0);
        }
    }

    private static void layers(BoreDesk desk, String what, int hole, int... rocksAndThick) {
        Desk.due(desk, what + ": layers", desk.hole(hole, 2), rocksAndThick.length / 2, 0);
        for (int i = 0; i < rocksAndThick.length; i++) {
            Desk.due(what + ": layer " + i / 2, desk.layer(hole, i / 2, i % 2), rocksAndThick[i]);
        }
    }

    // Promise 11: "Likewise the YEARS: how many STEPS (1: above 300, too; 9)."
    private static void yearsNumbers() {
        Picture.refused("n -1", desk -> desk.years(-1), 1);
        Picture.refused("the least n", desk -> desk.years(LEAST), 1);
        Picture.refused("one byte more than the tape has", desk -> desk.years(41), 1);
        Picture.refused("one byte of an empty tape", Picture::withoutTape, desk -> desk.years(1), 1);
        Picture.refused("301, and more than the tape has", desk -> desk.years(301), 1);
        Picture.refused("the greatest n", desk -> desk.years(MOST), 1);
    }

    // Part 4: "YEARS are a TEXT of at most 300 bytes"
    private static void yearsMost() {
        BoreDesk desk = Desk.with(GROUND);
        Desk.feed(desk, "stop;" + " ".repeat(290) + "stop;;");
        Desk.due(desk, "301", desk.years(301), -1, 1);
        Desk.due(desk, "300", desk.years(300), 2, 0);
        Desk.due(desk, "the tape is empty then", desk.years(1), -1, 1);
        Desk.feed(desk, "stop;" + " ".repeat(294) + "!");
        Desk.due(desk, "the last of 300 is no token", desk.years(300), -1, 9);
        Desk.due("its kind", desk.fault(0), 1);
        Desk.due("its place", desk.fault(1), 299);
        Desk.feed(desk, "stop;" + " ".repeat(400));
        Desk.due(desk, "301 of more than 400", desk.years(301), -1, 1);
        Desk.due(desk, "the tape is as it was", desk.field(320), -1, 9);
    }

    // Part 4: "of such TOKENS" - alone
    private static void everyByteAlone() {
        Picture.everyByteAlone(true);
    }

    // Part 4: "YEARS are a TEXT of at most 300 bytes, of such TOKENS" - as long as they go, between them blanks
    private static void tokensOfYears() {
        taken("\n \n lay \n g\n\na 5 ; \n", 1);
        taken("lay g a5;wear g5;storm5;move f5;loop5;end;", 5);
        taken("when deep g<5;end;when deep g>5;end;when deep g=5;end;", 3);
        taken("stop;stop\n;stop ;", 3);
        Picture.noYears(2, "^stopstop;");
        Picture.noYears(2, "^layg a 5;");
        Picture.noYears(3, "lay ^ga 5;");
        Picture.noYears(2, "storm 5 ^5;");
        Picture.noYears(1, "storm 5;^\r\n");
        Picture.noYears(1, "stop;^STOP;");
        Picture.noYears(1, "when deep g ^!= 5;end;");
        Picture.noYears(2, "when deep g < ^> 5;end;");
    }

    // Promise 11: "Likewise the YEARS"
    // Promise 10: "The first n bytes of the tape (which is empty then)"
    private static void yearsEmptyTheTape() {
        BoreDesk desk = Desk.with(GROUND);
        Desk.feed(desk, "stop;stop;stop;");
        Desk.due(desk, "the first ten", desk.years(10), 2, 0);
        Desk.due(desk, "empty then", desk.years(1), -1, 1);
        Desk.feed(desk, "stop;stop;stop;");
        Desk.due(desk, "none of them", desk.years(0), 0, 0);
        Desk.due(desk, "empty then, too", desk.field(1), -1, 1);
    }

    // Part 4: "(none at first)"
    private static void noneAtFirst() {
        BoreDesk desk = new BoreDesk();
        Desk.due(desk, "a new object has none", desk.live(0), -1, 6);
        Desk.field(desk, GROUND);
        Desk.due(desk, "nor has a field", desk.live(0), -1, 6);
        Desk.years(desk, "lay g a");
        Desk.due(desk, "nor has it with years refused", desk.live(0), -1, 6);
        Desk.due(desk, "nor have odds", desk.odds(0, 0, 0, 1), false, 6);
        Desk.years(desk, "stop;");
        Desk.due(desk, "now it has", desk.live(0), 1, 0);
    }

    // Part 4: "YEARS: {STEP}."
    private static void stepsAnyNumberOfTimes() {
        taken("", 0);
        taken(" \n ", 0);
        taken("storm 1;", 1);
        taken("storm 1;wear g 2;", 2);
        taken("when has g a;end;loop 3;end;", 2);
        BoreDesk none = living("");
        Desk.due(none, "years of no steps", none.live(3), 0, 0);
        lived(none, "years of no steps", 0, 0, 0, 0);
        layers(none, "as it was", 0, 0, 4, 1, 2);
        Desk.fraction(none, "odds of no steps", none.odds(0, 1, 0, 1), 1, 1);
    }

    // Part 4: "lay NAME NAME NUMBER ;"
    // Part 4: "lay: on a HOLE comes a ROCK, so THICK (1 to 99)"
    private static void layText() {
        taken("lay g a 1;lay h b 99;lay h c 0099;", 3);
        Picture.noYears(4, "lay g a ^0;");
        Picture.noYears(4, "lay g a ^100;");
        Picture.noYears(2, "lay g a^;");
        Picture.noYears(2, "lay g ^5;");
        Picture.noYears(3, "lay ^a g 5;");
    }

    // Part 4: "wear NAME NUMBER ;"
    // Part 4: "wear (1 to 99)"
    private static void wearText() {
        taken("wear g 1;wear h 99;", 2);
        Picture.noYears(4, "wear g ^0;");
        Picture.noYears(4, "wear g ^100;");
        Picture.noYears(2, "wear g ^a 5;");
        Picture.noYears(3, "wear ^f 5;");
    }

    // Part 4: "storm n (1 to 99)"
    private static void stormText() {
        taken("storm 1;storm 99;", 2);
        Picture.noYears(4, "storm ^0;");
        Picture.noYears(4, "storm ^100;");
        Picture.noYears(2, "storm ^g 5;");
    }

    // Part 4: "move: a FAULT throws so much more (1 to 99;"
    private static void moveText() {
        taken("move f 1;move f 99;", 2);
        Picture.noYears(4, "move f ^0;");
        Picture.noYears(4, "move f ^100;");
        Picture.noYears(3, "move ^g 5;");
        Picture.noYears(3, "move ^a 5;");
    }

    // Part 4: "when deep: all LAYERS of a HOLE together (0 to 9,999)"
    // Part 4: "deep NAME COMPARES NUMBER"
    private static void deepText() {
        taken("when deep g < 0;end;when deep g > 9999;end;when deep h = 0000;end;", 3);
        Picture.noYears(1, "when deep g < ^10000;end;");
        Picture.noYears(2, "when deep g ^5;end;");
        Picture.noYears(2, "when deep g ^; < 5;end;");
        Picture.noYears(2, "when deep g < ^= 5;end;");
        Picture.noYears(2, "when deep g < ^g;end;");
        Picture.noYears(3, "when deep ^a < 5;end;");
    }

    // Part 4: "has: a HOLE has a LAYER of a ROCK; top: its top LAYER is of that ROCK."
    private static void hasAndTopText() {
        taken("when has g a;end;when top h c;end;", 2);
        Picture.noYears(3, "when has ^a g;end;");
        Picture.noYears(3, "when has g ^g;end;");
        Picture.noYears(3, "when top ^f a;end;");
        Picture.noYears(3, "when top g ^f;end;");
        Picture.noYears(2, "when top g^;end;");
        Picture.noYears(2, "when has g a ^5;end;");
        Picture.noYears(2, "when ^has2 g a;end;".replace("has2", "g"));
        Picture.noYears(2, "when^;end;");
        Picture.noYears(2, "when ^when deep g < 5;end;");
    }

    // Part 4: "loop n (1 to 99): as often."
    private static void loopText() {
        taken("loop 1;end;loop 99;end;", 2);
        Picture.noYears(4, "loop ^0;end;");
        Picture.noYears(4, "loop ^100;end;");
        Picture.noYears(2, "loop^;end;");
    }

    // Part 4: "or stop ;"
    private static void stopText() {
        taken("stop;", 1);
        taken("loop 2;stop;end;stop;", 3);
        Picture.noYears(2, "stop ^1;");
        Picture.noYears(2, "stop^");
    }

    // Part 4: "FAULTS: 1, 2 as above"
    private static void kindOneAndTwo() {
        Picture.noYears(1, "^!");
        Picture.noYears(1, "stop;^\t");
        Picture.noYears(1, "wear g ^00001;");
        Picture.noYears(1, "wear ^12345 3;");
        Picture.noYears(2, "^;");
        Picture.noYears(2, "^5");
        Picture.noYears(2, "^rock a;");
        Picture.noYears(2, "^hole x at 5 5;");
        Picture.noYears(2, "^deep g < 5;");
        Picture.noYears(2, "lay ^abcdefghi a 5;");
        Picture.noYears(2, "lay g ^abcdefghi 5;");
        Picture.noYears(2, "move ^abcdefghi 5;");
        Picture.noYears(2, "when has g ^top;end;");
        Picture.noYears(2, "wear ^end 5;");
        Picture.noYears(3, "wear ^abcdefgh 5;");
    }

    // Part 4: "the text's end ahead of an end: 2"
    // Part 4: "STEP: lay NAME NAME NUMBER ; or wear NAME NUMBER ; or storm NUMBER ; or move NAME NUMBER ; or when TEST ; {STEP} end ; or loop NUMBER ; {STEP} end ; or stop ;"
    // Part 4: "TEST: deep NAME COMPARES NUMBER, or has NAME NAME, or top NAME NAME."
    private static void kindTwoAtTheEnd() {
        String whole = "lay g a 5;wear g 5;storm 5;move f 5;when deep g < 5;when has g a;when top g a;end;end;end;loop 3;stop;end;";
        int open = 0;
        for (int i = 1; i <= whole.length(); i++) {
            String part = whole.substring(0, i);
            boolean isBehindToken = i == whole.length() || " ;".indexOf(whole.charAt(i)) >= 0;
            if (part.endsWith(";")) {
                String last = part.substring(part.lastIndexOf(';', i - 2) + 1);
                open += last.startsWith("when") || last.startsWith("loop") ? 1 : last.equals("end;") ? -1 : 0;
            }
            if (part.endsWith(";") && open == 0) {
                BoreDesk desk = Desk.with(Picture.FIELD);
                Desk.due(desk, "whole: " + part, Desk.years(desk, part) > 0, true, 0);
            } else if (part.endsWith(";") || isBehindToken && !part.endsWith(" ")) {
                Picture.noYears(2, part + "^");
                Picture.noYears(2, part + "\n  ^");
            }
        }
    }

    // Part 4: "an end without a beginning"
    private static void endsWithoutBeginning() {
        Picture.noYears(2, "^end;");
        Picture.noYears(2, "stop;^end;");
        Picture.noYears(2, "loop 2;end;^end;");
        Picture.noYears(2, "loop 2;when has g a;end;end;^end;");
        Picture.noYears(2, "loop 2;end ^loop 2;end;");
    }

    // Part 4: "3 a NAME that is no such one."
    private static void kindThree() {
        Picture.noYears(3, "lay ^x a 5;");
        Picture.noYears(3, "lay ^f a 5;");
        Picture.noYears(3, "lay g ^x 5;");
        Picture.noYears(3, "lay g ^h 5;");
        Picture.noYears(3, "lay g ^f 0;");
        Picture.noYears(3, "wear ^b 5;");
        Picture.noYears(3, "move ^x 5;");
        Picture.noYears(3, "when deep ^x < 5;end;");
        BoreDesk bare = new BoreDesk();
        Desk.due(bare, "of a desk without a field", Desk.years(bare, "wear g 5;"), -1, 9);
        Desk.due("there is no such hole", bare.fault(0), 3);
        Desk.due(bare, "what names nothing is fine", Desk.years(bare, "storm 5;loop 2;stop;end;"), 3, 0);
    }

    // Part 4: "4 a NUMBER that can't be."
    private static void kindFour() {
        Picture.noYears(4, "stop;lay g a ^9999;");
        Picture.noYears(4, "wear g ^0000;");
        Picture.noYears(4, "storm ^9999");
        Picture.noYears(4, "loop ^0");
        Picture.noYears(4, "move f ^0100;");
    }

    // Part 4: "6 a 31st STEP (at its WORD; end is none)."
    private static void thirtySteps() {
        taken("stop;".repeat(30), 30);
        taken("loop 1;end;".repeat(15) + "stop;".repeat(15), 30);
        taken("stop;".repeat(27) + "loop 1;loop 1;loop 1;end;end;end;", 30);
        Picture.noYears(6, "stop;".repeat(30) + "^stop;");
        Picture.noYears(6, "stop;".repeat(30) + "^lay x y 0;");
        Picture.noYears(6, "stop;".repeat(30) + " ^when");
        Picture.noYears(6, "loop 1;end;".repeat(15) + "stop;".repeat(15) + "^loop 1;end;");
        Picture.noYears(6, "loop 1;" + "stop;".repeat(29) + "^stop;end;");
        Picture.noYears(2, "loop 1;" + "stop;".repeat(29) + "end;^end;");
        Picture.noYears(2, "stop;".repeat(30) + "^a");
    }

    // Part 4: "7 a when, loop within three others (at its WORD)."
    private static void withinThreeOthers() {
        taken("loop 1;loop 1;loop 1;stop;end;end;end;", 4);
        taken("when has g a;loop 1;when top g a;end;end;end;", 3);
        taken("loop 1;loop 1;loop 1;end;loop 1;end;end;loop 1;end;end;", 5);
        Picture.noYears(7, "loop 1;loop 1;loop 1;^loop 1;end;end;end;end;");
        Picture.noYears(7, "loop 1;loop 1;loop 1;^when");
        Picture.noYears(7, "when has g a;loop 1;when top g a;^when has x x;");
        Picture.noYears(7, "loop 1;loop 1;loop 1;end;loop 1;^loop 0;");
        Picture.noYears(7, "loop 1;loop 1;loop 1;stop; ^loop 1;");
    }

    // Terms: "of one TOKEN the least kind" - a 31st STEP within three others
    private static void theLeastKind() {
        Picture.noYears(6, "stop;".repeat(27) + "loop 1;loop 1;loop 1;^loop 1;");
        Picture.noYears(7, "stop;".repeat(26) + "loop 1;loop 1;loop 1;^loop 1;");
        Picture.noYears(6, "stop;".repeat(27) + "loop 1;loop 1;loop 1;^when");
    }

    // Promise 11: "Likewise the YEARS"
    // Promise 10: "9: the old one stays"
    private static void theOldOnesStay() {
        Picture.noYears(2, "lay g a 9;lay^");
        Picture.noYears(2, "lay g a 9;lay g a 9;lay g a 9^");
        BoreDesk desk = living("lay h a 7;");
        Desk.due(desk, "refused", Desk.years(desk, "lay h b 9;loop 2;"), -1, 9);
        Desk.due(desk, "the old ones", desk.live(0), 1, 0);
        layers(desk, "the old ones", 1, 0, 7);
        Desk.due(desk, "taken", Desk.years(desk, "lay h b 9;loop 2;end;"), 2, 0);
        Desk.due(desk, "the new ones", desk.live(0), 2, 0);
        layers(desk, "the new ones", 1, 1, 9, 0, 7);
    }

    // Promise 51: "lay, 1 to 99: how many LAYERS the HOLE has (1; 4: a 13th; 7: above 999)."
    private static void layRefused() {
        for (int hole : NO_HOLE) {
            Picture.refused("lay on hole " + hole, desk -> desk.lay(hole, 0, 1), 1);
        }
        for (int rock : NO_ROCK) {
            Picture.refused("lay rock " + rock, desk -> desk.lay(0, rock, 1), 1);
        }
        for (int thick : new int[] {-1, 0, 100, LEAST, MOST}) {
            Picture.refused("lay " + thick, desk -> desk.lay(0, 0, thick), 1);
        }
    }

    // Part 4: "a new LAYER on top, or, if that on top is the same ROCK, as much more on it"
    private static void layMore() {
        BoreDesk desk = Desk.with(GROUND);
        Desk.due(desk, "on none", desk.lay(1, 2, 1), 1, 0);
        Desk.due(desk, "the same", desk.lay(1, 2, 99), 1, 0);
        layers(desk, "as much more", 1, 2, 100);
        Desk.due(desk, "that below is the same", desk.lay(0, 1, 7), 3, 0);
        layers(desk, "a new one", 0, 1, 7, 0, 4, 1, 2);
        Desk.due(desk, "on the new one", desk.lay(0, 1, 1), 3, 0);
        layers(desk, "more on the new one", 0, 1, 8, 0, 4, 1, 2);
    }

    // Promise 51: "4: a 13th"
    private static void layA13th() {
        BoreDesk desk = twelve();
        Desk.due(desk, "a 13th", desk.lay(1, 0, 1), -1, 4);
        Desk.due(desk, "a 13th of a third rock", desk.lay(1, 2, 99), -1, 4);
        Desk.due(desk, "more on the twelfth", desk.lay(1, 1, 5), 12, 0);
        Desk.due("so thick", desk.layer(1, 0, 1), 6);
        Desk.due(desk, "1 ahead of 4", desk.lay(1, 0, 100), -1, 1);
        desk.wear(1, 6);
        Desk.due(desk, "eleven and one", desk.lay(1, 1, 1), 12, 0);
        Picture.refused("a 13th changes nothing", BoundsOfYearsTest::twelve, full -> full.lay(1, 0, 1), 4);
    }

    private static BoreDesk twelve() {
        BoreDesk desk = Desk.with(GROUND);
        for (int i = 1; i <= 12; i++) {
            Desk.due(desk, "layer " + i, desk.lay(1, i % 2 == 1 ? 0 : 1, 1), i, 0);
        }
        return desk;
    }

    // Promise 51: "7: above 999"
    private static void layAbove999() {
        BoreDesk desk = thick();
        Desk.due(desk, "one above it", desk.lay(1, 0, 10), -1, 7);
        Desk.due(desk, "far above it", desk.lay(1, 0, 99), -1, 7);
        Desk.due(desk, "999", desk.lay(1, 0, 9), 1, 0);
        layers(desk, "999", 1, 0, 999);
        Desk.due(desk, "one more", desk.lay(1, 0, 1), -1, 7);
        Desk.due(desk, "another rock", desk.lay(1, 1, 99), 2, 0);
        Desk.due("all together may be more", desk.hole(1, 3), 1098);
        Desk.due(desk, "1 ahead of 7", desk.lay(1, 0, 100), -1, 1);
        Picture.refused("above 999 changes nothing", BoundsOfYearsTest::thick, full -> full.lay(1, 0, 10), 7);
    }

    private static BoreDesk thick() {
        BoreDesk desk = Desk.with(GROUND);
        for (int i = 0; i < 10; i++) {
            Desk.due(desk, "99 more", desk.lay(1, 0, 99), 1, 0);
        }
        return desk;
    }

    // Promise 52: "wear, 1 to 99: how much is gone (1)."
    private static void wearRefused() {
        for (int hole : NO_HOLE) {
            Picture.refused("wear of hole " + hole, desk -> desk.wear(hole, 1), 1);
        }
        for (int thick : new int[] {-1, 0, 100, LEAST, MOST}) {
            Picture.refused("wear " + thick, desk -> desk.wear(0, thick), 1);
        }
    }

    // Part 4: "so much goes from the top of a HOLE, LAYER by LAYER; all there is, if it is less."
    private static void wearAllThereIs() {
        int[][] due = {{3, 3, 2}, {4, 4, 1}, {5, 5, 1}, {6, 6, 0}, {7, 6, 0}, {99, 6, 0}};
        for (int[] row : due) {
            BoreDesk desk = Desk.with(GROUND);
            Desk.due(desk, "wear " + row[0], desk.wear(0, row[0]), row[1], 0);
            Desk.due(desk, "layers left", desk.hole(0, 2), row[2], 0);
            Desk.due(desk, "left together", desk.hole(0, 3), 6 - row[1], 0);
        }
        BoreDesk none = Desk.with(GROUND);
        Desk.due(none, "no layers", none.wear(1, 99), 0, 0);
        BoreDesk part = Desk.with(GROUND);
        part.wear(0, 5);
        layers(part, "the rest of the second", 0, 1, 1);
        BoreDesk all = twelve();
        Desk.due(all, "all twelve", all.wear(1, 99), 12, 0);
        Desk.due(all, "nothing is left", all.hole(1, 2), 0, 0);
        Desk.due(all, "anew", all.lay(1, 0, 1), 1, 0);
    }

    // Promise 53: "A FAULT throws so much (0 to 999) (1)."
    private static void throwingRefused() {
        for (int fault : new int[] {-1, 1, 2, LEAST, MOST}) {
            Picture.denied("throwing of fault " + fault, desk -> desk.throwing(fault, 5), 1);
        }
        for (int much : new int[] {-1, 1000, LEAST, MOST}) {
            Picture.denied("throwing " + much, desk -> desk.throwing(0, much), 1);
        }
        BoreDesk desk = Desk.with(GROUND);
        for (int much : new int[] {0, 1, 999}) {
            Desk.due(desk, "throwing " + much, desk.throwing(0, much), true, 0);
            Desk.due(desk, "thrown " + much, desk.hole(1, 4), much, 0);
        }
    }

    // Part 4: "LIVED by a seed (0 to 9,999)"
    private static void liveNumbers() {
        for (int seed : new int[] {-1, 10000, LEAST, MOST}) {
            Picture.refused("seed " + seed, desk -> desk.live(seed), 1);
            BoreDesk fresh = new BoreDesk();
            Desk.due(fresh, "1 ahead of 6", fresh.live(seed), -1, 1);
        }
        BoreDesk desk = living("lay h a 1;");
        Desk.due(desk, "seed 0", desk.live(0), 1, 0);
        Desk.due(desk, "seed 9,999", desk.live(9999), 1, 0);
    }

    // Promise 54: "LIVED: how many STEPS were come to (MISSED ones, too) (1; 6: no YEARS)."
    private static void liveNoYears() {
        BoreDesk fresh = new BoreDesk();
        Desk.due(fresh, "a new object", fresh.live(0), -1, 6);
        BoreDesk desk = living("lay h a 1;");
        Desk.field(desk, GROUND);
        Desk.due(desk, "behind a field", desk.live(0), -1, 6);
        Picture.refused("no years", BoundsOfYearsTest::withoutYears, full -> full.live(0), 6);
    }

    private static BoreDesk withoutYears() {
        BoreDesk desk = Picture.withoutTape();
        Desk.due("a field takes the years away", Desk.field(desk, Picture.FIELD), Picture.HOLES);
        return desk;
    }

    // Part 4: "LIVED by a seed (0 to 9,999), from how all is now: what it comes to stays."
    private static void liveFromHowAllIs() {
        BoreDesk desk = living("lay h a 50;move f 9;");
        desk.lay(1, 0, 1);
        desk.throwing(0, 0);
        Desk.due(desk, "once", desk.live(0), 2, 0);
        Desk.due(desk, "twice", desk.live(0), 2, 0);
        layers(desk, "it stays", 1, 0, 101);
        Desk.due(desk, "moved twice", desk.hole(1, 4), 18, 0);
        lived(desk, "of the latest alone", 0, 50, 0, 0);
    }

    // Part 4: "where there are 12 LAYERS, or more than 999 it would be, it is MISSED."
    private static void layMissed() {
        BoreDesk desk = living("loop 6;lay h a 1;lay h b 1;end;");
        Desk.due(desk, "twelve", desk.live(0), 13, 0);
        lived(desk, "none is missed", 0, 12, 0, 0);
        BoreDesk more = living("loop 6;lay h a 1;lay h b 1;end;lay h a 9;lay h c 9;lay g c 9;");
        Desk.due(more, "a 13th, twice", more.live(0), 16, 0);
        lived(more, "two are missed", 2, 21, 0, 0);
        Desk.due(more, "twelve it has", more.hole(1, 2), 12, 0);
    }

    // Part 4: "or more than 999 it would be, it is MISSED."
    private static void layMissedAbove999() {
        BoreDesk desk = living("loop 10;lay h a 99;end;lay h a 9;");
        Desk.due(desk, "999", desk.live(0), 12, 0);
        lived(desk, "none is missed", 0, 999, 0, 0);
        BoreDesk more = living("loop 10;lay h a 99;end;lay h a 10;lay h a 9;lay h a 1;");
        Desk.due(more, "1000, twice", more.live(0), 14, 0);
        lived(more, "two are missed", 2, 999, 0, 0);
        layers(more, "999", 1, 0, 999);
    }

    // Part 4: "move: a FAULT throws so much more (1 to 99; 999 at most, else MISSED)."
    private static void moveMissed() {
        BoreDesk desk = living("move f 99;");
        Desk.due(desk, "999", desk.live(0), 1, 0);
        Desk.due(desk, "thrown", desk.hole(1, 4), 999, 0);
        lived(desk, "none is missed", 0, 0, 0, 0);
        BoreDesk more = living("move f 1;move f 99;move f 98;move f 1;");
        Desk.due(more, "1000, twice", more.live(0), 4, 0);
        Desk.due(more, "thrown", more.hole(1, 4), 999, 0);
        lived(more, "two are missed", 2, 0, 0, 0);
    }

    // Part 4: "for each HOLE a draw by n: so much wears off."
    private static void storms() {
        BoreDesk desk = living("storm 1;storm 99;");
        // By 1 each draw is 0, yet two are drawn: the third wears g, the fourth h.
        int seed = 4321;
        for (int draw = 0; draw < 3; draw++) {
            seed = (seed * 2777 + 9551) % 65536;
        }
        int g = Math.min(6, seed / 8 % 99);
        Desk.due(desk, "storms", desk.live(4321), 2, 0);
        Desk.due(desk, "left of g", desk.hole(0, 3), 6 - g, 0);
        lived(desk, "worn off g alone", 0, 0, g, 0);
        BoreDesk none = new BoreDesk();
        Desk.years(none, "storm 99;");
        Desk.due(none, "no holes", none.live(1), 1, 0);
        lived(none, "no holes", 0, 0, 0, 0);
    }

    // Part 4: "Draws: s, at first the seed, becomes what is left of s times 2,777 and 9,551 by 65,536; the draw is the rest of s by 8, rounded down, by n."
    private static void draws() {
        for (int first : new int[] {0, 1, 20, 21, 9998, 9999}) {
            for (int n : new int[] {1, 2, 98, 99}) {
                BoreDesk desk = Desk.with("rock a;hole g at 0 0;hole h at 1 1;");
                Desk.years(desk, "lay g a 99;lay h a 99;loop 9;storm " + n + ";end;");
                long s = first;
                int[] left = {99, 99};
                for (int draw = 0; draw < 18; draw++) {
                    s = (s * 2777 + 9551) % 65536;
                    left[draw % 2] = (int) Math.max(0, left[draw % 2] - s / 8 % n);
                }
                Desk.due(desk, "seed " + first + " by " + n, desk.live(first), 12, 0);
                Desk.due(desk, "left of g", desk.hole(0, 3), left[0], 0);
                Desk.due(desk, "left of h", desk.hole(1, 3), left[1], 0);
            }
        }
    }

    // Part 4: "COMPARES: < or > or ="
    private static void comparisons() {
        String[] tests = {"< 5", "< 6", "< 7", "> 5", "> 6", "> 7", "= 5", "= 6", "= 7"};
        int[] due = {0, 0, 1, 1, 0, 0, 0, 1, 0};
        for (int i = 0; i < 9; i++) {
            when("deep g " + tests[i], due[i]);
        }
        when("deep h = 0", 1);
        when("deep h < 0", 0);
        when("deep h > 0", 0);
    }

    private static void when(String test, int holds) {
        BoreDesk desk = living("when " + test + ";lay h c 7;end;lay g c 1;");
        Desk.due(desk, "when " + test, desk.live(0), 2 + holds, 0);
        Desk.due(desk, "within " + test, desk.hole(1, 3), 7 * holds, 0);
        Desk.due(desk, "behind " + test, desk.hole(0, 3), 7, 0);
    }

    // Part 4: "when deep: all LAYERS of a HOLE together (0 to 9,999)"
    private static void deepMost() {
        BoreDesk desk = Desk.with(GROUND);
        for (int layer = 0; layer < 11; layer++) {
            for (int turn = 0; turn < 10; turn++) {
                desk.lay(1, layer % 2, 99);
            }
        }
        desk.wear(1, 99);
        desk.lay(1, 0, 99);
        // 11 layers of 990 are 10,890: more than any number that may be told.
        Desk.due("deeper than 9,999", desk.hole(1, 3), 10890);
        Desk.years(desk, "when deep h > 9999;wear h 99;end;when deep h < 9999;stop;end;when deep h = 9999;stop;end;wear h 1;");
        Desk.due(desk, "above it, not below it, not it", desk.live(0), 5, 0);
        Desk.due(desk, "left", desk.hole(1, 3), 10790, 0);
        for (int turn = 0; turn < 7; turn++) {
            desk.wear(1, 99);
        }
        desk.wear(1, 98);
        Desk.due("9,999", desk.hole(1, 3), 9999);
        Desk.years(desk, "when deep h = 9999;lay g c 1;end;when deep h > 9999;stop;end;when deep h < 9999;stop;end;");
        Desk.due(desk, "it is", desk.live(0), 4, 0);
    }

    // Part 4: "has: a HOLE has a LAYER of a ROCK; top: its top LAYER is of that ROCK." - of a HOLE that has none
    private static void tests() {
        when("has g a", 1);
        when("has g b", 1);
        when("has g c", 0);
        when("has h a", 0);
        when("top g a", 1);
        when("top g b", 0);
        when("top h a", 0);
        BoreDesk worn = living("lay h c 3;wear h 3;when has h c;stop;end;when top h c;stop;end;lay h b 1;");
        Desk.due(worn, "worn off wholly", worn.live(0), 5, 0);
    }

    // Part 4: "loop n (1 to 99): as often."
    private static void loops() {
        for (int n : new int[] {1, 2, 98, 99}) {
            BoreDesk desk = living("loop " + n + ";lay h a 1;end;");
            Desk.due(desk, "loop " + n, desk.live(0), 1 + n, 0);
            Desk.due(desk, "as often", desk.hole(1, 3), n, 0);
        }
        BoreDesk inner = living("loop 2;loop 3;lay h a 1;end;end;");
        Desk.due(inner, "one within another, come to from ahead twice", inner.live(0), 1 + 2 + 6, 0);
        BoreDesk empty = living("loop 99;end;loop 99;loop 99;end;end;lay h a 1;");
        Desk.due(empty, "empty ones count as one", empty.live(0), 1 + 1 + 99 + 1, 0);
        Desk.due(empty, "what is behind them is done", empty.hole(1, 3), 1, 0);
    }

    // Part 4: "At most 300 STEPS (when, loop count as one each time they are come to from ahead; end does not)."
    private static void threeHundred() {
        // 1 and 3 by 99 are 298.
        String ahead = "loop 99;lay h a 1;wear h 1;storm 1;end;";
        String[] behind = {"storm 1;", "storm 1;storm 1;", "storm 1;storm 1;storm 1;", "storm 1;loop 5;lay h a 1;end;",
                "storm 1;storm 1;loop 1;end;", "storm 1;when has h a;lay h a 1;end;", "storm 1;when has g a;lay h a 1;end;",
                "storm 1;when has g a;end;", "storm 1;loop 5;end;", "loop 2;lay h a 1;end;", "loop 1;lay h a 1;end;"};
        int[] steps = {299, 300, 300, 300, 300, 300, 300, 300, 300, 300, 300};
        int[] left = {0, 0, 1, 1, 1, 0, 1, 0, 0, 1, 0};
        int[] laid = {99, 99, 99, 99, 99, 99, 99, 99, 99, 100, 100};
        for (int i = 0; i < behind.length; i++) {
            BoreDesk desk = living(ahead + behind[i]);
            Desk.due(desk, "298 and " + behind[i], desk.live(0), steps[i], 0);
            lived(desk, "298 and " + behind[i], 0, laid[i], 99, left[i]);
        }
        BoreDesk ends = living("when has g a;loop 1;" + ahead.replace("99", "98") + "storm 1;storm 1;storm 1;end;end;");
        // 2, 1 and 3 by 98, and 3: the ends behind them are no steps.
        Desk.due(ends, "only ends are left", ends.live(0), 300, 0);
        lived(ends, "only ends are left", 0, 98, 98, 0);
    }

    // Promise 55: "3: 1 if a STEP was left to be done (by the 300 alone, not by stop), else 0"
    private static void stopAmongThem() {
        String ahead = "loop 99;lay h a 1;wear h 1;storm 1;end;";
        BoreDesk stop = living("lay h a 3;stop;lay h a 4;");
        Desk.due(stop, "a stop counts", stop.live(0), 2, 0);
        lived(stop, "left by stop", 0, 3, 0, 0);
        BoreDesk last = living(ahead + "storm 1;stop;storm 1;");
        Desk.due(last, "the 300th is a stop", last.live(0), 300, 0);
        lived(last, "left by the stop", 0, 99, 99, 0);
        BoreDesk beyond = living(ahead + "storm 1;storm 1;stop;");
        Desk.due(beyond, "a stop behind the 300th", beyond.live(0), 300, 0);
        lived(beyond, "the stop itself was left", 0, 99, 99, 1);
        BoreDesk within = living("loop 3;when deep g > 5;stop;end;end;lay h a 1;");
        Desk.due(within, "a stop within others", within.live(0), 3, 0);
        Desk.due(within, "ends all", within.hole(1, 3), 0, 0);
    }

    // Promise 55: "(1; 6: there was none)"
    private static void livedNumbers() {
        for (int what : new int[] {-1, 4, LEAST, MOST}) {
            Picture.refused("lived " + what, desk -> desk.lived(what), 1);
            BoreDesk fresh = new BoreDesk();
            Desk.due(fresh, "1 ahead of 6", fresh.lived(what), -1, 1);
        }
        for (int what = 0; what <= 3; what++) {
            BoreDesk desk = living("lay h a 1;");
            desk.live(-1);
            desk.odds(0, 0, 0, 1);
            Desk.due(desk, "there was none", desk.lived(what), -1, 6);
        }
    }

    // Promise 55: "what 0: how many were MISSED, 1: how much was laid, 2: how much wore off"
    private static void livedWhat() {
        BoreDesk desk = living("lay h a 99;lay h b 1;wear h 2;wear g 99;wear g 1;move f 99;move f 99;lay g c 7;storm 1;");
        Desk.due(desk, "missed ones, too", desk.live(0), 9, 0);
        lived(desk, "one missed, 107 laid, 2 and 6 worn off", 1, 107, 8, 0);
        BoreDesk none = living("stop;");
        none.live(0);
        lived(none, "nothing", 0, 0, 0, 0);
    }

    // Promise 55: "Of live() latest with STATUS 0 (whatever came behind it)"
    private static void livedLatest() {
        BoreDesk desk = living("lay h a 9;wear h 2;move f 99;move f 99;");
        desk.mark();
        desk.live(0);
        lived(desk, "of the first", 1, 9, 2, 0);
        desk.live(10000);
        lived(desk, "behind one refused", 1, 9, 2, 0);
        desk.odds(1, 0, 0, 2);
        desk.back();
        lived(desk, "behind odds and back", 1, 9, 2, 0);
        Desk.years(desk, "stop;");
        lived(desk, "behind other years", 1, 9, 2, 0);
        Desk.field(desk, "");
        lived(desk, "behind another field", 1, 9, 2, 0);
        Desk.years(desk, "");
        desk.live(0);
        lived(desk, "of a later one", 0, 0, 0, 0);
    }

    // Promise 56: "The FRACTION is in how many of so many seeds (1 to 10) from one on a HOLE has a LAYER of a ROCK behind the YEARS"
    private static void oddsNumbers() {
        for (int hole : NO_HOLE) {
            Picture.denied("odds of hole " + hole, desk -> desk.odds(hole, 0, 0, 1), 1);
        }
        for (int rock : NO_ROCK) {
            Picture.denied("odds of rock " + rock, desk -> desk.odds(0, rock, 0, 1), 1);
        }
        for (int many : new int[] {-1, 0, 11, LEAST, MOST}) {
            Picture.denied("odds of " + many, desk -> desk.odds(0, 0, 0, many), 1);
        }
        for (int seed : new int[] {-1, 10000, LEAST, MOST}) {
            Picture.denied("odds from seed " + seed, desk -> desk.odds(0, 0, seed, 1), 1);
        }
        BoreDesk desk = living("storm 9;when deep g > 5;lay h a 1;end;");
        for (int many = 1; many <= 10; many++) {
            int having = 0;
            for (int seed = 30; seed < 30 + many; seed++) {
                having += (seed * 2777 + 9551) % 65536 / 8 % 9 == 0 ? 1 : 0;
            }
            int divisor = having == 0 ? many : java.math.BigInteger.valueOf(having).gcd(java.math.BigInteger.valueOf(many)).intValue();
            Desk.fraction(desk, "odds of " + many, desk.odds(1, 0, 30, many), having / divisor, many / divisor);
        }
        BoreDesk sure = living("storm 5;");
        Desk.fraction(sure, "all of ten", sure.odds(0, 1, 30, 10), 1, 1);
        Desk.fraction(sure, "none of ten", sure.odds(0, 2, 30, 10), 0, 1);
    }

    // Promise 56: "(1: the last above 9,999, too; 6: no YEARS)"
    private static void oddsLast() {
        BoreDesk desk = living("stop;");
        for (int many = 1; many <= 10; many++) {
            Desk.due(desk, "the last is 9,999 of " + many, desk.odds(0, 0, 10000 - many, many), true, 0);
            Desk.due(desk, "the last is 10,000 of " + many, desk.odds(0, 0, 10001 - many, many), false, 1);
        }
        Picture.denied("the last above 9,999", full -> full.odds(0, 0, 9999, 2), 1);
        Picture.denied("beyond an int", full -> full.odds(0, 0, MOST, 10), 1);
    }

    // Promise 56: "6: no YEARS"
    private static void oddsNoYears() {
        BoreDesk desk = Desk.with(GROUND);
        Desk.due(desk, "no years", desk.odds(0, 0, 0, 1), false, 6);
        Desk.due(desk, "1 ahead of 6", desk.odds(0, 0, 9999, 2), false, 1);
        Desk.due(desk, "1 ahead of 6, rock", desk.odds(0, 3, 0, 1), false, 1);
        Picture.denied("no years", BoundsOfYearsTest::withoutYears, full -> full.odds(0, 0, 0, 1), 6);
    }

    // Promise 56: "all stays as it is."
    private static void oddsStays() {
        BoreDesk desk = Picture.full();
        BoreDesk twin = Picture.full();
        Desk.due(desk, "odds", desk.odds(0, 0, 0, 10), true, 0);
        long top = desk.top();
        Desk.due("a fraction", top >= 0 && top <= desk.bottom(), true);
        desk.area(1);
        twin.area(1);
        java.util.List<String> due = Picture.of(twin);
        java.util.List<String> got = Picture.of(desk);
        Desk.due("all stays: " + due.equals(got), got.equals(due), true);
    }
}
