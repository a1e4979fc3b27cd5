import java.util.Random;

/** Runs of 512 calls with likely and unlikely arguments: nothing is thrown, and STATUS goes with the answer. */
public final class NeverThrowsTest {
    private static final int[] EDGES = {Integer.MIN_VALUE, -1000, -2, -1, 0, 1, 2, 3, 4, 5, 6, 7, 8, 9, 10, 11, 12, 13,
        20, 59, 60, 61, 71, 72, 73, 99, 100, 300, 301, 900, 901, 999, 1000, 9999, 10000, 999999, 1000000, Integer.MAX_VALUE};
    private static final String[] FIELD_TOKENS = {"rock", "skip", "unlike", "costs", "hole", "at", "bed", "thick", "triangle",
        "fault", "from", "to", "throws", "a", "b", "c", "d", ";", ";", "<", "0", "5", "99", "100", "999", "12345", "A"};
    private static final String[] FIELD_PARTS = {"rock a;", "rock b skip 2;", "rock c skip 0;", "unlike a b costs 3;",
        "hole g at 0 0 bed a thick 4 bed b thick 2 bed c thick 6;", "hole h at 6 0 bed a thick 3 bed c thick 6;",
        "hole i at 0 8 bed b thick 2 bed a thick 99 bed b thick 4 bed a thick 9;", "hole j at 90 30;",
        "hole k at 500 999 bed c thick 1 bed c thick 1 bed c thick 1 bed c thick 1 bed c thick 1 bed c thick 1 bed c thick 1 bed c thick 1;",
        "hole l at 999 999 bed a thick 1;", "triangle g h i;", "triangle g h j;", "triangle j i h;", "triangle k l j;",
        "fault f from 50 0 to 50 20 throws 30;", "fault e from 0 0 to 999 998 throws 999;"};
    private static final String[] YEARS_PARTS = {"lay g a 5;", "lay h b 99;", "wear g 9;", "wear i 99;", "storm 30;", "storm 99;",
        "move f 99;", "when deep g > 5;", "when has h b;", "when top i a;", "loop 99;", "loop 3;", "end;", "end;", "stop;", "oops"};

    private static Random random;
    private static BoreDesk desk;

    public static void main(String[] args) {
        int failures = 0;
        for (int run = 0; run < 1500 && failures < 5; run++) {
            random = new Random(run);
            desk = new BoreDesk();
            try {
                for (int call = 0; call < 512; call++) {
                    someCall(random.nextInt(64));
                }
            } catch (RuntimeException e) {
                failures++;
                System.out.println("run " + run + " threw " + e);
                e.printStackTrace(System.out);
            }
        }
        Desk.due("runs that threw", failures, 0);
        Desk.end();
    }

    private static int any() {
        return random.nextInt(3) == 0 ? EDGES[random.nextInt(EDGES.length)] : random.nextInt(8);
    }

    private static int many() {
        return random.nextInt(3) == 0 ? any() : random.nextInt(62);
    }

    private static void number(int answer) {
        int status = desk.status();
        Desk.due("STATUS within 0 to 9", status >= 0 && status <= 9, true);
        if (status != 0) {
            Desk.due("NONE with STATUS " + status, answer, -1);
        }
    }

    private static void numberAboveNone(int answer) {
        number(answer);
        Desk.due("NONE with another STATUS than 0 alone", answer < 0, desk.status() != 0);
    }

    private static void yes(boolean answer) {
        Desk.due("false with another STATUS than 0", answer, desk.status() == 0);
    }

    private static void fraction(boolean answer) {
        yes(answer);
        Desk.due("the bottom above 0", desk.bottom() > 0, true);
        Desk.due("no common divisor", gcd(Math.abs(desk.top()), desk.bottom()), 1);
    }

    private static long gcd(long a, long b) {
        return b == 0 ? a : gcd(b, a % b);
    }

    private static void text(String[] parts, int most, boolean inOrder) {
        StringBuilder text = new StringBuilder();
        int at = 0;
        for (int i = 0; i < most; i++) {
            at = inOrder ? at + 1 + random.nextInt(8) / 7 : random.nextInt(parts.length);
            if (at - 1 < parts.length && at > 0) {
                text.append(parts[at - 1]).append(random.nextInt(9) == 0 ? "\n" : " ");
            }
        }
        if (random.nextInt(4) == 0 && text.length() > 0) {
            text.setCharAt(random.nextInt(text.length()), (char) random.nextInt(256));
        }
        Desk.feed(desk, text.toString());
        if (random.nextInt(9) == 0) {
            desk.feed(any(), any(), random.nextInt(), random.nextInt(), random.nextInt());
        }
        int bytes = Math.min(text.length(), 900);
        if (parts == YEARS_PARTS) {
            numberAboveNone(desk.years(Math.min(bytes, 300)));
        } else {
            numberAboveNone(desk.field(bytes));
        }
        Desk.due("a fault with STATUS 9 alone", desk.status() == 9, desk.fault(0) > 0);
    }

    private static void someCall(int which) {
        switch (which) {
            case 0: yes(desk.tray(any(), any(), many())); break;
            case 1: case 2: case 3: yes(desk.write(any(), many(), random.nextInt(4) == 0 ? random.nextLong() : any())); break;
            case 4: desk.read(any(), many()); break;
            case 5: yes(desk.pour(any(), any(), any(), any(), any())); break;
            case 6: desk.feed(any(), any(), any(), any(), any()); break;
            case 7: text(FIELD_TOKENS, random.nextInt(40), false); break;
            case 8: text(FIELD_PARTS, 16, true); break;
            case 9: case 10: case 11: text(YEARS_PARTS, random.nextInt(30), false); break;
            case 12: desk.fault(any()); break;
            case 13: numberAboveNone(desk.told(any())); break;
            case 14: numberAboveNone(desk.skip(any())); break;
            case 15: numberAboveNone(desk.unlike(any(), any())); break;
            case 16: numberAboveNone(desk.hole(any(), any())); break;
            case 17: numberAboveNone(desk.layer(any(), any(), any())); break;
            case 18: numberAboveNone(desk.layerAt(any(), any())); break;
            case 19: numberAboveNone(desk.side(any(), any())); break;
            case 20: numberAboveNone(desk.match(any(), any())); break;
            case 21: numberAboveNone(desk.pairOf(any())); break;
            case 22: numberAboveNone(desk.pairs()); break;
            case 23: numberAboveNone(desk.tree(any(), any())); break;
            case 24: numberAboveNone(desk.treeCost()); break;
            case 25: numberAboveNone(desk.beds()); break;
            case 26: numberAboveNone(desk.bedOf(any(), any())); break;
            case 27: numberAboveNone(desk.holesOf(any())); break;
            case 28: numberAboveNone(desk.bed(any(), any(), any())); break;
            case 29: numberAboveNone(desk.above(any(), any())); break;
            case 30: numberAboveNone(desk.order(any())); break;
            case 31: numberAboveNone(desk.widest()); break;
            case 32: fraction(desk.area(any())); break;
            case 33: numberAboveNone(desk.across(any())); break;
            case 34: numberAboveNone(desk.triangleAt(any(), any())); break;
            case 35: fraction(desk.topAt(any(), any(), any())); break;
            case 36: fraction(desk.thickAt(any(), any(), any())); break;
            case 37: fraction(desk.volume(any(), any())); break;
            case 38: fraction(desk.volumeOf(any())); break;
            case 39: fraction(desk.tilt(any(), any(), any())); break;
            default: someLaterCall(which); break;
        }
    }

    private static void someLaterCall(int which) {
        switch (which) {
            case 40: numberAboveNone(desk.deepest(any())); break;
            case 41: numberAboveNone(desk.shared(any(), any())); break;
            case 42: numberAboveNone(desk.gaps(any())); break;
            case 43: case 44: numberAboveNone(desk.draws(any(), any())); break;
            case 45: numberAboveNone(desk.picks(any(), many(), any(), any())); break;
            case 46: numberAboveNone(desk.pickAt(any())); break;
            case 47: numberAboveNone(desk.fill(any(), many())); break;
            case 48: numberAboveNone(desk.runs(any(), many())); break;
            case 49: numberAboveNone(desk.agrees(any(), many(), any())); break;
            case 50: number(desk.shift(any(), many(), any(), any())); break;
            case 51: numberAboveNone(desk.likest(any(), many())); break;
            case 52: case 53: case 54: numberAboveNone(desk.lay(any(), any(), any())); break;
            case 55: numberAboveNone(desk.wear(any(), any())); break;
            case 56: yes(desk.throwing(any(), any())); break;
            case 57: case 58: numberAboveNone(desk.live(any())); break;
            case 59: numberAboveNone(desk.lived(any())); break;
            case 60: fraction(desk.odds(any(), any(), any(), any())); break;
            case 61: numberAboveNone(desk.mark()); break;
            case 62: numberAboveNone(desk.back()); break;
            default: desk.top(); break;
        }
    }
}
