import java.io.IOException;
import java.lang.reflect.Constructor;
import java.lang.reflect.Executable;
import java.lang.reflect.Field;
import java.lang.reflect.Method;
import java.lang.reflect.Modifier;
import java.nio.file.Files;
import java.nio.file.Path;
import java.util.ArrayList;
import java.util.List;
import java.util.TreeSet;
import java.util.regex.Matcher;
import java.util.regex.Pattern;

/** The public face, as the document has it, and what the document leaves free. Run it from the project's folder. */
public final class FaceTest {
    private static final Pattern GROUP = Pattern.compile("Ahead of the calls (.*) the interface says: (---- .*)\\.");
    private static final Pattern PROMISE = Pattern.compile("## Promise (\\d+): .*\n\n`([^`]*)`: ");
    private static final Pattern CALL = Pattern.compile(" {4}public (?:\\w+ )?(\\w+)\\(.*");

    public static void main(String[] args) throws IOException {
        theFace();
        theConstants();
        aPromiseForEach();
        theGroups();
        noneOfItsOwn();
        objectsInSeveralThreads();
        laterCalls();
        behindALaterCall();
        Desk.end();
    }

    private static String document() throws IOException {
        return Files.readString(Path.of("../shared/DOC.md"));
    }

    /** The lines of the face in the document, without the class and its end. */
    private static List<String> faceOfTheDocument() throws IOException {
        String doc = document();
        int from = doc.indexOf("public final class BoreDesk {\n");
        int to = doc.indexOf("}\n```", from);
        List<String> lines = new ArrayList<>();
        for (String line : doc.substring(doc.indexOf('\n', from) + 1, to).split("\n")) {
            lines.add(line.trim());
        }
        return lines;
    }

    private static String arguments(Executable call) {
        StringBuilder types = new StringBuilder("(");
        for (Class<?> type : call.getParameterTypes()) {
            types.append(types.length() > 1 ? ", " : "").append(type.getName());
        }
        return types.append(")").toString();
    }

    /** A line of the document without the names of its arguments. */
    private static String withoutNames(String line) {
        String open = line.replaceAll("(int|long|boolean) \\w+(?=[,)])", "$1");
        return open.replaceAll(";$", "");
    }

    private static void theFace() throws IOException {
        TreeSet<String> due = new TreeSet<>();
        for (String line : faceOfTheDocument()) {
            due.add(line.contains("=") ? line.substring(0, line.indexOf(" =")) : withoutNames(line));
        }
        Desk.due("lines of the face", due.size(), 59);
        TreeSet<String> got = new TreeSet<>();
        for (Field field : BoreDesk.class.getDeclaredFields()) {
            if (!Modifier.isPrivate(field.getModifiers())) {
                got.add(Modifier.toString(field.getModifiers()) + " " + field.getType().getName() + " " + field.getName());
            }
        }
        for (Constructor<?> made : BoreDesk.class.getDeclaredConstructors()) {
            if (!Modifier.isPrivate(made.getModifiers())) {
                got.add(Modifier.toString(made.getModifiers()) + " BoreDesk" + arguments(made));
            }
        }
        for (Method call : BoreDesk.class.getDeclaredMethods()) {
            if (!Modifier.isPrivate(call.getModifiers())) {
                got.add(Modifier.toString(call.getModifiers()) + " " + call.getReturnType().getName() + " " + call.getName() + arguments(call));
            }
        }
        for (String line : due) {
            Desk.due("the class has " + line, got.contains(line), true);
        }
        for (String line : got) {
            Desk.due("the document has " + line, due.contains(line), true);
        }
        Desk.due("public and final", BoreDesk.class.getModifiers(), Modifier.PUBLIC | Modifier.FINAL);
        Desk.due("of no class but Object", BoreDesk.class.getSuperclass() == Object.class, true);
        Desk.due("of no interface", BoreDesk.class.getInterfaces().length, 0);
        Desk.due("without a package", BoreDesk.class.getPackageName().isEmpty(), true);
    }

    // Groups: "The constants: NONE = -1: None."
    private static void theConstants() throws IOException {
        Desk.due("NONE", BoreDesk.NONE, -1);
        Desk.due("as the face has it", faceOfTheDocument().contains("public static final int NONE = -1;"), true);
    }

    /** Each promise tells the same call as the face, in the same order. */
    private static void aPromiseForEach() throws IOException {
        List<String> face = faceOfTheDocument();
        Matcher promise = PROMISE.matcher(document());
        int found = 0;
        while (promise.find()) {
            found++;
            Desk.due("number of a promise", Integer.parseInt(promise.group(1)), found);
            String due = found < face.size() ? face.get(found) : "";
            Desk.due("promise " + found + " is of " + due, due.equals("public " + promise.group(2) + ";"), true);
        }
        Desk.due("promises", found, 58);
    }

    // Groups: "Ahead of the calls tray, write, read, pour the interface says: ---- TRAYS."
    // Groups: "Ahead of the calls feed, field, years, fault, told, skip, unlike, hole, layer, layerAt, side the interface says: ---- texts."
    // Groups: "Ahead of the calls match, pairOf, pairs, tree, treeCost the interface says: ---- matches."
    // Groups: "Ahead of the calls beds, bedOf, holesOf, bed, above, order, widest the interface says: ---- BEDS."
    // Groups: "Ahead of the calls area, across, triangleAt, topAt, thickAt, volume, volumeOf, tilt, deepest, shared, gaps, draws the interface says: ---- surfaces."
    // Groups: "Ahead of the calls picks, pickAt, fill, runs, agrees, shift, likest the interface says: ---- LOGS."
    // Groups: "Ahead of the calls lay, wear, throwing, live, lived, odds the interface says: ---- what becomes of it."
    // Groups: "Ahead of the calls mark, back the interface says: ---- MARKS."
    private static void theGroups() throws IOException {
        StringBuilder due = new StringBuilder("BoreDesk status top bottom ");
        Matcher group = GROUP.matcher(document());
        while (group.find()) {
            due.append(group.group(2)).append(' ').append(group.group(1).replaceAll("[`,]", "")).append(' ');
        }
        StringBuilder got = new StringBuilder();
        for (String line : Files.readAllLines(Path.of("src/main/java/BoreDesk.java"))) {
            Matcher call = CALL.matcher(line);
            if (call.matches()) {
                got.append(call.group(1)).append(' ');
            } else if (line.startsWith("    // ----") && due.indexOf(line.substring(7) + " ") >= 0) {
                got.append(line.substring(7)).append(' ');
            }
        }
        Desk.due("groups of calls: " + got + "as due: " + due, got.toString().equals(due.toString()), true);
    }

    // Not promised: "How the state is held inside the object is free, as are the speed of each call, the text of toString and the behaviour of equals and hashCode."
    private static void noneOfItsOwn() {
        for (Method call : BoreDesk.class.getDeclaredMethods()) {
            Desk.due("not of its own: " + call.getName(), List.of("toString", "equals", "hashCode").contains(call.getName()), false);
        }
        for (Field field : BoreDesk.class.getDeclaredFields()) {
            int flags = field.getModifiers();
            Desk.due("no state but that of objects: " + field.getName(), Modifier.isStatic(flags) && !Modifier.isFinal(flags), false);
        }
        BoreDesk one = Desk.with(Picture.FIELD);
        BoreDesk other = new BoreDesk();
        other.tray(0, 0, 5);
        other.mark();
        Desk.due(one, "one does not see the other's trays", one.read(0, 0), -1, 2);
        Desk.due(one, "nor its marks", one.back(), -1, 6);
        Desk.due(other, "the other has no holes", other.told(1), 0, 0);
    }

    // Not promised: "Use of one object from several threads at once is not promised to be safe."
    private static void objectsInSeveralThreads() {
        List<String> due = Picture.of(Picture.full());
        boolean[] same = new boolean[8];
        List<Thread> threads = new ArrayList<>();
        List<BoreDesk> desks = new ArrayList<>();
        for (int i = 0; i < same.length; i++) {
            desks.add(Picture.full());
        }
        for (int i = 0; i < same.length; i++) {
            int which = i;
            threads.add(new Thread(() -> same[which] = Picture.of(desks.get(which)).equals(due)));
        }
        threads.forEach(Thread::start);
        for (Thread thread : threads) {
            try {
                thread.join();
            } catch (InterruptedException e) {
                Thread.currentThread().interrupt();
            }
        }
        for (int i = 0; i < same.length; i++) {
            Desk.due("an object of its own in thread " + i, same[i], true);
        }
    }

    // Head: "what later calls answer is free."
    private static void laterCalls() {
        BoreDesk desk = Picture.full();
        int ended = 0;
        for (int call = 0; call < 5000; call++) {
            desk.feed(call, call, call, call, call);
            desk.field(call % 40);
            desk.lay(call % 4, call % 3, 99);
            desk.live(call);
            desk.mark();
            desk.order(call % 80);
            ended++;
        }
        Desk.due("they end, and throw nothing", ended, 5000);
    }

    // Not promised: "Nothing is promised beyond the answers and state changes described above, and nothing about an object after its 512th call."
    private static void behindALaterCall() {
        BoreDesk late = new BoreDesk();
        for (int call = 0; call < 600; call++) {
            late.tray(call % 4, 0, call % 61);
        }
        BoreDesk desk = Picture.full();
        Desk.due("a new object is as new", Picture.of(desk).equals(Picture.of(Picture.full())), true);
    }
}
