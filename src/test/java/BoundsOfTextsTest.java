/** Bounds that the document names for the tape and the text of a FIELD: the terms' first part, promises 9, 10, 12. */
public final class BoundsOfTextsTest {
    private static final String KEPT = "rock skip unlike costs hole at bed thick triangle fault from to throws "
            + "lay wear storm move when deep has top loop end stop";
    private static final String THREE = "hole a at 1 1;hole b at 9 1;hole c at 1 9;";

    public static void main(String[] args) {
        tapeMost();
        highestByteFirst();
        behindThoseOnTheTape();
        feedHasNoStatus();
        fieldNumbers();
        fieldEmptiesTheTape();
        fieldMost();
        everyByteAlone();
        blanks();
        wordsAsLongAsTheyGo();
        numbersAsLongAsTheyGo();
        digitsOfNumbers();
        partsAnyNumberOfTimes();
        skipPerhaps();
        lettersOfNames();
        keptWords();
        oneNameOneThing();
        rocksMost();
        skipCosts();
        unlikeCosts();
        unlikeOfOneAndItself();
        holesMost();
        holePlaces();
        noTwoHolesAtOnePlace();
        bedsMost();
        bedsThick();
        trianglesMost();
        trianglesOnOneLine();
        trianglesOfOneHoleTwice();
        faultsMost();
        faultPoints();
        faultThrows();
        faultOnOnePoint();
        toldAhead();
        numberedAsTheyStand();
        kindOne();
        kindTwo();
        kindTwoAtTheEnd();
        kindThree();
        kindFour();
        kindSix();
        theFirstAlongIt();
        theLeastKind();
        inPlaceOfThatAhead();
        theOldOneStays();
        faultTold();
        faultToldOfNone();
        Desk.end();
    }

    private static BoreDesk taken(String text, int holes) {
        BoreDesk desk = new BoreDesk();
        Desk.due(desk, "taken: " + text, Desk.field(desk, text), holes, 0);
        Desk.due("no fault in " + text, desk.fault(0), 0);
        Desk.due("no place in " + text, desk.fault(1), -1);
        return desk;
    }

    // Promise 9: "how many it has; NONE if there would be more than 900."
    private static void tapeMost() {
        BoreDesk desk = new BoreDesk();
        for (int bytes = 20; bytes <= 900; bytes += 20) {
            Desk.due("fed", desk.feed(0x20202020, 0x20202020, 0x20202020, 0x20202020, 0x20202020), bytes);
        }
        Desk.due("more than 900", desk.feed(0, 0, 0, 0, 0), -1);
        Desk.due("still more than 900", desk.feed(0x21212121, 0, 0, 0, 0), -1);
        Desk.due(desk, "they are as they were", desk.field(900), 0, 0);
        Desk.due("empty then", desk.feed(0, 0, 0, 0, 0), 20);
    }

    // Promise 9: "the highest of each int first"
    private static void highestByteFirst() {
        BoreDesk desk = new BoreDesk();
        // "rock", " ab ", "skip", "  7;", then one that is not asked for.
        desk.feed(0x726f636b, 0x20616220, 0x736b6970, 0x2020373b, 0x80ffffff);
        Desk.due(desk, "sixteen bytes", desk.field(16), 0, 0);
        Desk.due(desk, "its skip", desk.skip(0), 7, 0);
        desk.feed(0x726f636b, 0x20616220, 0x736b6970, 0x2020373b, 0x80ffffff);
        Desk.due(desk, "seventeen bytes", desk.field(17), -1, 9);
        Desk.due("the highest byte of the last int", desk.fault(1), 16);
        desk.feed(-1, 0, 0, 0, 0);
        Desk.due(desk, "255", desk.field(1), -1, 9);
        Desk.due("no token begins so", desk.fault(0), 1);
    }

    // Promise 9: "Twenty bytes come behind those on the tape"
    private static void behindThoseOnTheTape() {
        BoreDesk desk = new BoreDesk();
        // "rock abcd;hole h at " and "7 9;", then blanks: a text that goes on from one feed to the next.
        Desk.due("twenty", desk.feed(0x726f636b, 0x20616263, 0x643b686f, 0x6c652068, 0x20617420), 20);
        Desk.due("twenty more", desk.feed(0x3720393b, 0x20202020, 0x20202020, 0x20202020, 0x20202020), 40);
        Desk.due(desk, "of both", desk.field(24), 1, 0);
        Desk.due(desk, "x, of the second", desk.hole(0, 0), 7, 0);
        Desk.due(desk, "y, of the second", desk.hole(0, 1), 9, 0);
        // A word, a number that begin in one and end in the other.
        desk.feed(0x726f636b, 0x20612073, 0x6b69703b, 0x20202020, 0x2020726f);
        desk.feed(0x636b2062, 0x3b202020, 0x20202020, 0x20202020, 0x20202020);
        Desk.due(desk, "skip without a number", desk.field(40), -1, 9);
        Desk.due("its place", desk.fault(1), 11);
        desk.feed(0x726f636b, 0x20612020, 0x20202020, 0x20736b69, 0x70202031);
        desk.feed(0x323b726f, 0x636b2062, 0x20736b69, 0x70202039, 0x39203b20);
        Desk.due(desk, "12, and 99", desk.field(40), 0, 0);
        Desk.due(desk, "12 of 1 and 2", desk.skip(0), 12, 0);
        Desk.due(desk, "all of the second", desk.skip(1), 99, 0);
        // Behind a text that was taken the tape is empty: what is fed then is the first.
        desk.feed(0x726f636b, 0x20613b20, 0x20202020, 0x20202020, 0x20202020);
        Desk.due(desk, "the first seven alone", desk.field(7), 0, 0);
        Desk.due("twenty again", desk.feed(0x726f636b, 0x207a3b20, 0x20202020, 0x20202020, 0x20202020), 20);
    }

    // Part 5: "status(), top(), bottom(), feed(), fault() have none."
    private static void feedHasNoStatus() {
        BoreDesk desk = new BoreDesk();
        desk.read(0, 0);
        desk.status();
        desk.top();
        desk.bottom();
        desk.feed(0, 0, 0, 0, 0);
        desk.fault(0);
        desk.fault(7);
        Desk.due("STATUS of the latest that has one", desk.status(), 2);
        for (int i = 0; i < 46; i++) {
            desk.feed(0, 0, 0, 0, 0);
        }
        Desk.due("feed refused has none either", desk.status(), 2);
    }

    // Promise 10: "1: n below 0, or more than the tape has, too"
    private static void fieldNumbers() {
        Picture.refused("n -1", desk -> desk.field(-1), 1);
        Picture.refused("the least n", desk -> desk.field(Integer.MIN_VALUE), 1);
        Picture.refused("one byte more than the tape has", desk -> desk.field(41), 1);
        Picture.refused("the greatest n", desk -> desk.field(Integer.MAX_VALUE), 1);
        Picture.refused("one byte of an empty tape", Picture::withoutTape, desk -> desk.field(1), 1);
        BoreDesk desk = new BoreDesk();
        Desk.feed(desk, "rock r;hole h at 1 1");
        Desk.due(desk, "none of its bytes", desk.field(0), 0, 0);
        Desk.feed(desk, "rock r;hole h at 1 ;");
        Desk.due(desk, "all of its bytes", desk.field(20), -1, 9);
        Desk.feed(desk, "hole h at  \n 1    1;");
        Desk.due(desk, "all of its bytes, taken", desk.field(20), 1, 0);
    }

    // Promise 10: "The first n bytes of the tape (which is empty then) are the FIELD"
    private static void fieldEmptiesTheTape() {
        BoreDesk desk = new BoreDesk();
        Desk.feed(desk, "rock a;rock b;rock c;rock d;");
        Desk.due(desk, "the first seven", desk.field(7), 0, 0);
        Desk.due("one rock", desk.told(0), 1);
        Desk.due(desk, "empty then", desk.field(1), -1, 1);
        Desk.feed(desk, "rock a;rock b;");
        Desk.due(desk, "none of them", desk.field(0), 0, 0);
        Desk.due("no rock", desk.told(0), 0);
        Desk.due(desk, "empty then, too", desk.field(1), -1, 1);
    }

    // Terms: "A FIELD is a TEXT of at most 900 bytes."
    private static void fieldMost() {
        String end = "rock a;hole h at 3 4;";
        BoreDesk desk = taken(" ".repeat(900 - end.length()) + end, 1);
        Desk.due("its last byte counts", desk.hole(0, 1), 4);
        BoreDesk open = new BoreDesk();
        int bytes = Desk.feed(open, " ".repeat(894) + "rock a");
        Desk.due(open, "900 bytes, the last a name", open.field(bytes), -1, 9);
        Desk.due("the text's length", open.fault(1), 900);
        Desk.feed(open, "\n".repeat(899) + "!");
        Desk.due(open, "the last of 900 is no token", open.field(900), -1, 9);
        Desk.due("kind 1", open.fault(0), 1);
        Desk.due("place 899", open.fault(1), 899);
        Desk.feed(open, " ".repeat(900));
        Desk.due(open, "901", open.field(901), -1, 1);
        Desk.due(open, "900 blanks", open.field(900), 0, 0);
        // As many tokens as there may be: 900 of one byte, of which the first can't stand there.
        Desk.feed(open, ";".repeat(900));
        Desk.due(open, "900 signs", open.field(900), -1, 9);
        Desk.due("the first", open.fault(1), 0);
    }

    // Terms: "TOKENS, as long as they go, between them blanks (10, 32): WORDS (small letters), NUMBERS (1 to 4 digits), SIGNS ; < > ="
    private static void everyByteAlone() {
        Picture.everyByteAlone(false);
    }

    // Terms: "between them blanks (10, 32)"
    private static void blanks() {
        taken("\n \n rock \n\n a\nskip 3 ; \n", 0);
        taken("rock a;hole h at1 1bed a thick5;", 1);
        Picture.noField(1, "rock^\ta;");
        Picture.noField(1, "rock a;^\r\n");
        Picture.noField(1, "rock^\u00a0a;");
    }

    // Terms: "TOKENS, as long as they go" - of words
    private static void wordsAsLongAsTheyGo() {
        Picture.noField(2, "^rocka;");
        Picture.noField(2, "rock ^askiplong3;");
        Picture.noField(2, "rock askip^3;");
        taken("rock askip;", 0);
        taken("rock a skip3;", 0);
        taken("rock skips;rock ro;rock rocks;rock ski;", 0);
    }

    // Terms: "TOKENS, as long as they go" - of numbers
    private static void numbersAsLongAsTheyGo() {
        Picture.noField(4, "rock a skip ^100;");
        Picture.noField(2, "rock a skip 10 ^0;");
        Picture.noField(1, "hole h at ^99999 9;");
        taken("hole h at 9 99;", 1);
    }

    // Terms: "NUMBERS (1 to 4 digits)"
    private static void digitsOfNumbers() {
        Desk.due("1 digit", taken("hole h at 7 8;", 1).hole(0, 0), 7);
        Desk.due("4 digits", taken("hole h at 0999 0008;", 1).hole(0, 0), 999);
        Desk.due("4 digits, 0", taken("hole h at 0000 8;", 1).hole(0, 0), 0);
        Picture.noField(4, "hole h at ^9999 8;");
        Picture.noField(1, "hole h at ^00007 8;");
        Picture.noField(1, "hole h at 7 ^10000;");
        Picture.noField(1, "hole h at 7 ^" + "0".repeat(90) + ";");
    }

    // Terms: "FIELD: {PART}."
    // Terms: "({ } any number of times, [ ] perhaps.)"
    private static void partsAnyNumberOfTimes() {
        BoreDesk none = taken("", 0);
        for (int what = 0; what <= 3; what++) {
            Desk.due(none, "nothing told", none.told(what), 0, 0);
        }
        taken("rock a;", 0);
        taken("rock a;rock b;" + "unlike a b costs 1;".repeat(46), 0);
        taken("hole h at 1 1;", 1);
    }

    // Terms: "rock NAME [skip NUMBER] ;"
    private static void skipPerhaps() {
        taken("rock a;rock b skip 1;", 0);
        Picture.noField(2, "rock a skip^;");
        Picture.noField(2, "rock a skip 1 ^skip 1;");
    }

    // Terms: "NAME: a WORD of 1 to 8 letters"
    private static void lettersOfNames() {
        BoreDesk desk = taken("rock z;rock abcdefgh;hole stuvwxyz at 1 1 bed abcdefgh thick 1 bed z thick 1;", 1);
        Desk.due("of 8 letters", desk.layer(0, 0, 0), 1);
        Desk.due("of 1 letter", desk.layer(0, 1, 0), 0);
        Picture.noField(2, "rock ^abcdefghi;");
        Picture.noField(2, "rock ^;");
        Picture.noField(2, "hole ^abcdefghi at 1 1;");
        Picture.noField(2, "fault ^abcdefghi from 1 1 to 2 2 throws 1;");
        Picture.noField(2, "rock abcdefgh;hole h at 1 1 bed ^abcdefghi thick 1;");
        Picture.noField(2, "rock abcdefgh;unlike ^abcdefghi abcdefgh costs 1;");
        Picture.noField(2, "rock abcdefgh;unlike abcdefgh ^abcdefghi costs 1;");
        Picture.noField(2, THREE + "triangle ^abcdefghi b c;");
        Picture.noField(2, THREE + "triangle a ^abcdefghi c;");
        Picture.noField(2, THREE + "triangle a b ^abcdefghi;");
        Picture.noField(2, "rock ^" + "a".repeat(200) + ";");
    }

    // Terms: "that is none of rock, skip, unlike, costs, hole, at, bed, thick, triangle, fault, from, to, throws, lay, wear, storm, move, when, deep, has, top, loop, end, stop."
    private static void keptWords() {
        for (String word : KEPT.split(" ")) {
            Picture.noField(2, "rock ^" + word + ";");
            Picture.noField(2, "hole ^" + word + " at 1 1;");
            Picture.noField(2, "fault ^" + word + " from 1 1 to 2 2 throws 1;");
            Picture.noField(2, "rock r;hole h at 1 1 bed ^" + word + " thick 1;");
            Picture.noField(2, THREE + "triangle a b ^" + word + ";");
            // A word that is longer or shorter by a letter is a name.
            if (word.length() < 8) {
                taken("rock " + word + "x;", 0);
            }
            if (word.length() > 2 && !KEPT.contains(" " + word.substring(1) + " ")) {
                taken("rock " + word.substring(1) + ";", 0);
            }
        }
        taken("rock and;rock or;rock deeper;rock tops;rock sto;", 0);
    }

    // Terms: "One NAME is of one thing alone."
    private static void oneNameOneThing() {
        String[] things = {"rock %s;", "hole %s at 3 3;", "fault %s from 1 1 to 2 2 throws 1;"};
        String[] others = {"rock %s;", "hole %s at 4 4;", "fault %s from 1 1 to 3 2 throws 1;"};
        for (String first : things) {
            for (String second : others) {
                String ahead = first.replace("%s", "same");
                Picture.noField(3, ahead + second.replace("%s", "^same"));
                taken(ahead + second.replace("%s", "samey"), (ahead + second).split("hole").length - 1);
            }
        }
        taken("rock g;rock h;", 0);
    }

    // Terms: "ROCKS, at most 8"
    private static void rocksMost() {
        StringBuilder text = new StringBuilder();
        for (char name = 'a'; name <= 'h'; name++) {
            text.append("rock ").append(name).append(';');
        }
        BoreDesk desk = taken(text.toString(), 0);
        Desk.due("eight", desk.told(0), 8);
        Desk.due(desk, "rock 7", desk.skip(7), 5, 0);
        Desk.due(desk, "rock 8", desk.skip(8), -1, 1);
        Picture.noField(6, text + "^rock i;");
        Picture.noField(6, text + "^rock a;");
        Picture.noField(6, text + "hole i at 1 1; ^rock 5");
    }

    // Terms: "what it costs to SKIP one (0 to 99; 5 without)."
    private static void skipCosts() {
        BoreDesk desk = taken("rock a skip 0;rock b skip 99;rock c;", 0);
        Desk.due("0", desk.skip(0), 0);
        Desk.due("99", desk.skip(1), 99);
        Desk.due("without", desk.skip(2), 5);
        Picture.noField(4, "rock a skip ^100;");
        Picture.noField(4, "rock a skip ^9999;");
    }

    // Terms: "UNLIKE: what two different ROCKS cost (0 to 99; 9 for a couple not told; told twice: the latest), either way."
    private static void unlikeCosts() {
        BoreDesk desk = taken("rock a;rock b;rock c;unlike a b costs 0;unlike c b costs 7;unlike b c costs 99;rock d;", 0);
        Desk.due("0", desk.unlike(0, 1), 0);
        Desk.due("0, the other way", desk.unlike(1, 0), 0);
        Desk.due("99, the latest", desk.unlike(1, 2), 99);
        Desk.due("99, the other way", desk.unlike(2, 1), 99);
        Desk.due("not told", desk.unlike(0, 2), 9);
        Desk.due("not told, of one that came later", desk.unlike(3, 1), 9);
        Picture.noField(4, "rock a;rock b;unlike a b costs ^100;");
        taken("rock a;rock b;unlike a b costs 0;unlike a b costs 99;", 0);
    }

    // Terms: "5 unlike of one ROCK and itself (at the second NAME)"
    private static void unlikeOfOneAndItself() {
        Picture.noField(5, "rock a;unlike a ^a costs 3;");
        Picture.noField(5, "rock a;rock b;unlike b ^b");
        taken("rock a;rock b;unlike b a costs 3;", 0);
    }

    // Terms: "HOLES, at most 6"
    // Promise 10: "how many HOLES"
    private static void holesMost() {
        StringBuilder text = new StringBuilder();
        for (int i = 0; i < 6; i++) {
            text.append("hole ").append((char) ('a' + i)).append(" at ").append(i).append(" 0;");
        }
        BoreDesk desk = taken(text.toString(), 6);
        Desk.due("six", desk.told(1), 6);
        Desk.due(desk, "hole 5", desk.hole(5, 0), 5, 0);
        Desk.due(desk, "hole 6", desk.hole(6, 0), -1, 1);
        Picture.noField(6, text + "^hole g at 6 0;");
        Picture.noField(6, text + "^hole a at 0 0;");
        Picture.noField(6, text + "rock x;^hole");
    }

    // Terms: "AT x, y (0 to 999 each)"
    private static void holePlaces() {
        BoreDesk desk = taken("hole a at 0 999;hole b at 999 0;hole c at 0 0;hole d at 999 999;", 4);
        Desk.due("x 0", desk.hole(0, 0), 0);
        Desk.due("y 999", desk.hole(0, 1), 999);
        Desk.due("x 999", desk.hole(1, 0), 999);
        Desk.due("y 0", desk.hole(1, 1), 0);
        Picture.noField(4, "hole a at ^1000 0;");
        Picture.noField(4, "hole a at 0 ^1000;");
    }

    // Terms: "no two at one place"
    // Terms: "a HOLE where one stands (at y)"
    private static void noTwoHolesAtOnePlace() {
        Picture.noField(5, "hole a at 3 4;hole b at 3 ^4;");
        Picture.noField(5, "hole a at 3 4;hole b at 4 3;hole c at 0003 ^0004;");
        Picture.noField(5, "hole a at 0 0;hole b at 0 ^0 bed");
        taken("hole a at 3 4;hole b at 3 5;hole c at 4 4;hole d at 4 3;", 4);
    }

    // Terms: "LAYERS from the top down (at most 8)"
    // Terms: "a ninth bed (at that WORD)"
    private static void bedsMost() {
        StringBuilder text = new StringBuilder("rock r;hole h at 1 1");
        Desk.due("no layers", taken(text + ";", 1).hole(0, 2), 0);
        for (int i = 1; i <= 8; i++) {
            text.append(" bed r thick ").append(i);
        }
        BoreDesk desk = taken(text + ";hole i at 2 2 bed r thick 9;", 2);
        Desk.due("eight layers", desk.hole(0, 2), 8);
        Desk.due("the first is the top", desk.layer(0, 0, 1), 1);
        Desk.due("the eighth is the lowest", desk.layer(0, 7, 1), 8);
        Desk.due("the next hole begins anew", desk.hole(1, 2), 1);
        Picture.noField(6, text + " ^bed r thick 9;");
        Picture.noField(6, text + " ^bed x");
    }

    // Terms: "a ROCK, how THICK (1 to 99)."
    private static void bedsThick() {
        BoreDesk desk = taken("rock r;hole h at 1 1 bed r thick 1 bed r thick 99;", 1);
        Desk.due("1", desk.layer(0, 0, 1), 1);
        Desk.due("99", desk.layer(0, 1, 1), 99);
        Picture.noField(4, "rock r;hole h at 1 1 bed r thick ^0;");
        Picture.noField(4, "rock r;hole h at 1 1 bed r thick ^100;");
        Picture.noField(4, "rock r;hole h at 1 1 bed r thick ^0000;");
    }

    // Terms: "TRIANGLES, at most 8, of three HOLES told"
    private static void trianglesMost() {
        StringBuilder text = new StringBuilder(THREE);
        for (int i = 0; i < 8; i++) {
            text.append("triangle a b c;");
        }
        BoreDesk desk = taken(text.toString(), 3);
        Desk.due("eight", desk.told(2), 8);
        Desk.due(desk, "triangle 7", desk.across(7), 0, 0);
        Desk.due(desk, "triangle 8", desk.across(8), -1, 1);
        Picture.noField(6, text + "^triangle a b c;");
        Picture.noField(6, text + "^triangle");
        Picture.noField(2, THREE + "triangle a b^;");
        Picture.noField(2, THREE + "triangle a b c ^a;");
    }

    // Terms: "of three HOLES told, not on one line."
    // Terms: "a TRIANGLE on one line, or of one HOLE twice (at its last NAME)"
    private static void trianglesOnOneLine() {
        Picture.noField(5, "hole a at 0 0;hole b at 1 1;hole c at 2 2;triangle a b ^c;");
        Picture.noField(5, "hole a at 0 0;hole b at 1 1;hole c at 2 2;triangle c a ^b;");
        Picture.noField(5, "hole a at 0 0;hole b at 0 5;hole c at 0 999;triangle a b ^c;");
        Picture.noField(5, "hole a at 0 7;hole b at 9 7;hole c at 3 7;triangle a b ^c;");
        Picture.noField(5, "hole a at 0 0;hole b at 333 333;hole c at 999 999;triangle a b ^c");
        taken("hole a at 0 0;hole b at 1 1;hole c at 2 1;triangle a b c;", 3);
        taken("hole a at 0 0;hole b at 998 998;hole c at 999 998;triangle a b c;", 3);
        taken("hole a at 999 999;hole b at 0 1;hole c at 1 2;triangle a b c;", 3);
    }

    // Terms: "or of one HOLE twice (at its last NAME)"
    private static void trianglesOfOneHoleTwice() {
        Picture.noField(5, THREE + "triangle a a ^b;");
        Picture.noField(5, THREE + "triangle a b ^a;");
        Picture.noField(5, THREE + "triangle b a ^a;");
        Picture.noField(5, THREE + "triangle a a ^a;");
        Picture.noField(3, THREE + "triangle a a ^x;");
        Picture.noField(2, THREE + "triangle a a^;");
        taken(THREE + "triangle a b c;triangle a b c;triangle c b a;", 3);
    }

    // Terms: "FAULTS, at most 2"
    private static void faultsMost() {
        String two = "fault f from 0 0 to 1 1 throws 1;fault g from 0 0 to 1 1 throws 2;";
        BoreDesk desk = taken("hole h at 1 0;" + two, 1);
        Desk.due("two", desk.told(3), 2);
        Desk.due(desk, "fault 1", desk.side(1, 0), 1, 0);
        Desk.due(desk, "fault 2", desk.side(2, 0), -1, 1);
        Picture.noField(6, two + "^fault h from 0 0 to 1 1 throws 1;");
        Picture.noField(6, two + "^fault f");
    }

    // Terms: "a line from a point to another one (0 to 999 each, not the same)"
    private static void faultPoints() {
        taken("fault f from 0 999 to 999 0 throws 1;", 0);
        taken("fault f from 999 0 to 0 999 throws 1;", 0);
        Picture.noField(4, "fault f from ^1000 0 to 1 1 throws 1;");
        Picture.noField(4, "fault f from 0 ^1000 to 1 1 throws 1;");
        Picture.noField(4, "fault f from 0 0 to ^1000 1 throws 1;");
        Picture.noField(4, "fault f from 0 0 to 1 ^1000 throws 1;");
    }

    // Terms: "it THROWS down (0 to 999) what is on its right"
    private static void faultThrows() {
        BoreDesk desk = taken("hole h at 9 0;fault f from 0 0 to 0 1 throws 0;fault g from 0 0 to 0 1 throws 999;", 1);
        Desk.due("0 and 999", desk.hole(0, 4), 999);
        Picture.noField(4, "fault f from 0 0 to 0 1 throws ^1000;");
        taken("fault f from 0 0 to 0 1 throws 0999;", 0);
    }

    // Terms: "a fault's points the same (at its last y)."
    private static void faultOnOnePoint() {
        Picture.noField(5, "fault f from 3 4 to 3 ^4 throws 1;");
        Picture.noField(5, "fault f from 0 0 to 0 ^0");
        Picture.noField(5, "fault f from 3 4 to 0003 ^04;");
        taken("fault f from 3 4 to 3 5 throws 1;fault g from 3 4 to 4 4 throws 1;", 0);
        taken("fault f from 3 4 to 4 3 throws 1;", 0);
    }

    // Terms: "what a PART names must be told ahead."
    private static void toldAhead() {
        Picture.noField(3, "rock a;unlike a ^b costs 1;rock b;");
        Picture.noField(3, "unlike ^a b costs 1;rock a;rock b;");
        Picture.noField(3, "hole h at 1 1 bed ^r thick 1;rock r;");
        Picture.noField(3, "hole a at 1 1;hole b at 9 1;triangle a b ^c;hole c at 1 9;");
        Picture.noField(3, "triangle ^a b c;" + THREE);
        // Names of the field that was there ahead are not told.
        Picture.noField(3, "hole x at 1 1 bed ^a thick 1;");
        Picture.noField(3, "triangle ^g h i;");
    }

    // Terms: "All are numbered as they stand"
    private static void numberedAsTheyStand() {
        BoreDesk desk = taken("rock z skip 1;hole y at 1 1;rock x skip 2;hole w at 9 1;fault v from 0 0 to 0 9 throws 3;"
                + "rock u skip 3;hole t at 1 9;triangle y w t;fault s from 0 5 to 9 5 throws 4;triangle t y w;", 3);
        for (int rock = 0; rock < 3; rock++) {
            Desk.due("rock " + rock, desk.skip(rock), rock + 1);
        }
        Desk.due("hole 0", desk.hole(0, 1), 1);
        Desk.due("hole 1", desk.hole(1, 0), 9);
        Desk.due("hole 2", desk.hole(2, 1), 9);
        Desk.due("fault 0 has all on its right", desk.side(0, 2), 1);
        Desk.due("fault 1 has hole 2 on its left", desk.side(1, 2), 0);
    }

    // Terms: "1 no TOKEN begins so (a NUMBER of 5 digits and more: at its first)."
    private static void kindOne() {
        Picture.noField(1, "^!");
        Picture.noField(1, "rock a^,");
        Picture.noField(1, "^Rock a;");
        Picture.noField(1, "rock a^B;");
        Picture.noField(1, "rock a; ^\u0000");
        Picture.noField(1, "rock a; ^\u00ff");
        Picture.noField(1, "rock a skip ^-1;");
        Picture.noField(1, "^12345");
        Picture.noField(1, "rock a skip ^00005;");
        Picture.noField(1, "rock ^123456789012;");
        Picture.noField(1, "hole h at 1 ^99999999999999999999;");
        Picture.noField(2, "^1234");
    }

    // Terms: "2 it can't stand there (the end: the text's length; a WORD of 9 letters and more where a NAME must stand)."
    private static void kindTwo() {
        Picture.noField(2, "^a");
        Picture.noField(2, "^;");
        Picture.noField(2, "rock a;^;");
        Picture.noField(2, "^skip 3;");
        Picture.noField(2, "^lay a b 3;");
        Picture.noField(2, "^abcdefghij");
        Picture.noField(2, "rock ^<;");
        Picture.noField(2, "rock a ^=;");
        Picture.noField(2, "rock a skip ^>");
        Picture.noField(2, "rock a;rock b;unlike a b ^5;");
        Picture.noField(2, "rock a;rock b;unlike a b costs ^a;");
        Picture.noField(2, "rock a;rock b;unlike a b costs 5 ^costs;");
        Picture.noField(2, "hole h ^3 3;");
        Picture.noField(2, "hole h at 3^;");
        Picture.noField(2, "hole h at ^h 3;");
        Picture.noField(2, "hole h at 3 3 ^thick 3;");
        Picture.noField(2, "rock r;hole h at 3 3 bed r ^3;");
        Picture.noField(2, "rock r;hole h at 3 3 bed r thick ^bed;");
        Picture.noField(2, "rock r;hole h at 3 3 bed r thick 3 ^r;");
        Picture.noField(2, THREE + "triangle ^1 b c;");
        Picture.noField(2, "fault f ^to 1 1;");
        Picture.noField(2, "fault f from 1 1 ^from;");
        Picture.noField(2, "fault f from 1 1 to 2 2 ^3;");
        Picture.noField(2, "fault f from 1 1 to 2 2 throws^;");
        Picture.noField(2, "fault f from 1 1 to 2 2 throws 3 ^4;");
    }

    // Terms: "the end: the text's length" - wherever a text may end too early
    // Terms: "PART: rock NAME [skip NUMBER] ; or unlike NAME NAME costs NUMBER ; or hole NAME at NUMBER NUMBER {bed NAME thick NUMBER} ;"
    // Terms: "or triangle NAME NAME NAME ; or fault NAME from NUMBER NUMBER to NUMBER NUMBER throws NUMBER ;"
    private static void kindTwoAtTheEnd() {
        String whole = "rock a skip 3;rock b;unlike a b costs 4;hole h at 1 2 bed a thick 3;hole i at 2 2;hole j at 2 3;"
                + "triangle h i j;fault f from 1 2 to 3 4 throws 5;";
        for (int i = 1; i <= whole.length(); i++) {
            String part = whole.substring(0, i).trim();
            boolean isWhole = part.endsWith(";");
            boolean isBehindToken = i == whole.length() || " ;".indexOf(whole.charAt(i)) >= 0;
            if (isWhole) {
                BoreDesk desk = new BoreDesk();
                Desk.due("whole: " + part, Desk.field(desk, part) >= 0, true);
            } else if (isBehindToken) {
                Picture.noField(2, part + "^");
                Picture.noField(2, part + " \n ^");
            }
        }
    }

    // Terms: "3 a new NAME that is taken; a NAME that is no such thing told ahead."
    private static void kindThree() {
        String ahead = "rock r;hole h at 1 1;fault f from 1 1 to 2 2 throws 1;";
        Picture.noField(3, ahead + "rock ^r;");
        Picture.noField(3, ahead + "rock ^h");
        Picture.noField(3, ahead + "hole ^f at");
        Picture.noField(3, ahead + "unlike ^h r costs 1;");
        Picture.noField(3, ahead + "unlike r ^f costs 1;");
        Picture.noField(3, ahead + "hole i at 2 2 bed ^h thick 1;");
        Picture.noField(3, ahead + "hole i at 2 2 bed ^i thick 1;");
        Picture.noField(3, ahead + "triangle ^r h h;");
        Picture.noField(3, ahead + "triangle h ^f h;");
        Picture.noField(3, ahead + "triangle h h ^x;");
        Picture.noField(3, ahead + "unlike ^abcdefgh r costs 1;");
    }

    // Terms: "4 a NUMBER that can't be."
    private static void kindFour() {
        Picture.noField(4, "rock a skip ^9999");
        Picture.noField(4, "rock a;rock b;unlike a b costs ^0100;");
        Picture.noField(4, "hole h at ^1000");
        Picture.noField(4, "hole h at 5 ^9999");
        Picture.noField(4, "rock a;hole h at 5 5 bed a thick ^0");
        Picture.noField(4, "fault f from ^1000");
        Picture.noField(4, "fault f from 1 1 to 2 2 throws ^9999");
    }

    // Terms: "6 one more rock, hole, triangle, fault than there may be (at that WORD)"
    private static void kindSix() {
        String rocks = "rock a;rock b;rock c;rock d;rock e;rock f;rock g;rock h;";
        String holes = "hole i at 1 1;hole j at 2 1;hole k at 3 1;hole l at 4 1;hole m at 5 1;hole n at 6 2;";
        String triangles = "triangle i j n;".repeat(8);
        String faults = "fault o from 1 1 to 2 2 throws 1;fault p from 1 1 to 2 2 throws 1;";
        String all = rocks + holes + triangles + faults;
        BoreDesk desk = taken(all, 6);
        Desk.due("rocks", desk.told(0), 8);
        Desk.due("triangles", desk.told(2), 8);
        Desk.due("faults", desk.told(3), 2);
        for (String word : "rock hole triangle fault".split(" ")) {
            Picture.noField(6, all + "^" + word);
            Picture.noField(6, all + "unlike a b costs 3; ^" + word + " x;");
        }
    }

    // Terms: "FAULTS of the text, the first along it"
    private static void theFirstAlongIt() {
        Picture.noField(4, "rock a skip ^100;!");
        Picture.noField(3, "rock a;rock ^a skip 100;");
        Picture.noField(2, "^a 12345");
        Picture.noField(6, "rock a;rock b;rock c;rock d;rock e;rock f;rock g;rock h;^rock !");
        Picture.noField(5, "rock a;unlike a ^a costs 100;");
        Picture.noField(1, "rock a^!;rock a;");
    }

    // Terms: "of one TOKEN the least kind"
    private static void theLeastKind() {
        Picture.noField(1, "rock ^12345;");
        Picture.noField(1, "^99999;");
        Picture.noField(1, "rock a ^55555;");
        Picture.noField(3, THREE + "triangle a a ^d;");
        Picture.noField(4, "hole a at 5 1;hole b at 5 ^1001;");
        Picture.noField(4, "fault f from 1 1 to 1 ^1001 throws 1;");
        Picture.noField(2, "rock a;unlike a ^top costs 1;");
    }

    // Terms: "A FIELD that is taken is there in place of that ahead; there are no YEARS."
    private static void inPlaceOfThatAhead() {
        BoreDesk desk = Picture.withoutTape();
        Desk.due(desk, "another one", Desk.field(desk, "rock a;hole g at 7 8;"), 1, 0);
        Desk.due("one rock", desk.told(0), 1);
        Desk.due("no triangles", desk.told(2), 0);
        Desk.due("no faults", desk.told(3), 0);
        Desk.due("its skip", desk.skip(0), 5);
        Desk.due("no layers", desk.hole(0, 2), 0);
        Desk.due("nothing thrown", desk.hole(0, 4), 0);
        Desk.due(desk, "no years", desk.live(0), -1, 6);
        Desk.due(desk, "no years for odds", desk.odds(0, 0, 0, 1), false, 6);
        BoreDesk same = Desk.with(Picture.FIELD);
        Desk.years(same, "lay g a 1;");
        Desk.field(same, Picture.FIELD);
        Desk.due(same, "of the same field no years", same.live(0), -1, 6);
        BoreDesk empty = Desk.with(Picture.FIELD);
        Desk.due(empty, "an empty one", empty.field(0), 0, 0);
        Desk.due("no holes", empty.told(1), 0);
        Desk.due("no beds", empty.beds(), 0);
    }

    // Promise 10: "9: the old one stays"
    // Part 5: "With another STATUS than 0 a call gives NONE, or false, and changes nothing else (but field(), years() with 9 the tape, and what fault() tells)."
    private static void theOldOneStays() {
        Picture.noField(2, "rock x;rock y;hole g at 5 5;^x");
        Picture.noField(2, "hole g at 5 5^");
        BoreDesk desk = Picture.full();
        Desk.due(desk, "refused", desk.field(40), -1, 9);
        Desk.due(desk, "the tape is empty then", desk.field(1), -1, 1);
        Desk.due("fed anew", desk.feed(0, 0, 0, 0, 0), 20);
    }

    // Promise 12: "Of the latest field() or years() with STATUS 0 or 9, what 0: the FAULT (0 without one), 1: its place (NONE without)."
    private static void faultTold() {
        BoreDesk desk = new BoreDesk();
        Desk.field(desk, "rock a;rock a;");
        fault(desk, "of a field", 3, 12);
        desk.field(-1);
        fault(desk, "a field with STATUS 1 leaves it", 3, 12);
        desk.years(1);
        fault(desk, "years with STATUS 1 leave it", 3, 12);
        Desk.years(desk, "stop");
        fault(desk, "of years", 2, 4);
        Desk.years(desk, "stop;");
        fault(desk, "of years without one", 0, -1);
        Desk.field(desk, "!");
        fault(desk, "at the first byte", 1, 0);
        Desk.field(desk, "");
        fault(desk, "of a field without one", 0, -1);
    }

    private static void fault(BoreDesk desk, String what, int kind, int place) {
        Desk.due(what, desk.fault(0), kind);
        Desk.due(what + ": place", desk.fault(1), place);
    }

    // Promise 12: "NONE for others, and ahead of any."
    private static void faultToldOfNone() {
        BoreDesk desk = new BoreDesk();
        fault(desk, "ahead of any", -1, -1);
        desk.field(1);
        desk.years(-1);
        fault(desk, "ahead of any with STATUS 0 or 9", -1, -1);
        desk.field(0);
        fault(desk, "of an empty field", 0, -1);
        Desk.field(desk, "a");
        for (int what : new int[] {-1, 2, Integer.MIN_VALUE, Integer.MAX_VALUE}) {
            Desk.due("what " + what, desk.fault(what), -1);
        }
    }
}
