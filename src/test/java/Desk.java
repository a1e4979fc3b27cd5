import java.nio.charset.StandardCharsets;

/** What the tests of the project share: texts on the tape, and answers compared with those that are due. */
final class Desk {
    private static int wrong = 0;
    private static int compared = 0;

    private Desk() {
    }

    static void due(String what, long got, long want) {
        compared++;
        if (got != want) {
            wrong++;
            if (wrong <= 40) {
                System.out.println(what + ": answered " + got + ", due is " + want);
            }
        }
    }

    static void due(String what, boolean got, boolean want) {
        due(what, got ? 1 : 0, want ? 1 : 0);
    }

    /** An answer together with the STATUS of its call. */
    static void due(BoreDesk desk, String what, long got, long want, int status) {
        due(what, got, want);
        due(what + " STATUS", desk.status(), status);
    }

    static void due(BoreDesk desk, String what, boolean got, boolean want, int status) {
        due(desk, what, got ? 1 : 0, want ? 1 : 0, status);
    }

    static void fraction(BoreDesk desk, String what, boolean got, long top, long bottom) {
        due(desk, what, got, true, 0);
        due(what + " top", desk.top(), top);
        due(what + " bottom", desk.bottom(), bottom);
    }

    /** Feeds a text, told by its characters 0 to 255, to the tape: how many bytes of it count. */
    static int feed(BoreDesk desk, String text) {
        byte[] bytes = text.getBytes(StandardCharsets.ISO_8859_1);
        for (int i = 0; i < bytes.length; i += 20) {
            desk.feed(four(bytes, i), four(bytes, i + 4), four(bytes, i + 8), four(bytes, i + 12), four(bytes, i + 16));
        }
        return bytes.length;
    }

    private static int four(byte[] bytes, int from) {
        int four = 0;
        for (int i = from; i < from + 4; i++) {
            four = four << 8 | (i < bytes.length ? bytes[i] & 255 : 0);
        }
        return four;
    }

    static int field(BoreDesk desk, String text) {
        return desk.field(feed(desk, text));
    }

    static int years(BoreDesk desk, String text) {
        return desk.years(feed(desk, text));
    }

    /** A new desk with a field that must be taken. */
    static BoreDesk with(String text) {
        BoreDesk desk = new BoreDesk();
        due("a field is taken: " + text, field(desk, text) >= 0, true);
        return desk;
    }

    static void write(BoreDesk desk, int tray, long... numbers) {
        desk.tray(tray, 3, numbers.length);
        for (int i = 0; i < numbers.length; i++) {
            desk.write(tray, i, numbers[i]);
        }
    }

    /** Ends the test: exit code 1 if an answer was not as due. */
    static void end() {
        System.out.println(compared + " answers compared, " + wrong + " not as due");
        if (wrong != 0 || compared == 0) {
            System.exit(1);
        }
    }
}
