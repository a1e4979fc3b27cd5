/** A desk for bore holes: fields and years told as texts, matches, beds, surfaces, logs, marks. */
public final class BoreDesk {
    public static final int NONE = -1;

    // What status() tells.
    private static final int FINE = 0;
    private static final int BAD_NUMBER = 1;
    private static final int TRAY_MISSING = 2;
    private static final int TOO_FEW = 3;
    private static final int TOO_MANY = 4;
    private static final int BAD_ENTRY = 5;
    private static final int NO_SUCH = 6;
    private static final int CANNOT_BE = 7;
    private static final int UNLIKE_SORTS = 8;
    private static final int FAULTY_TEXT = 9;

    // What fault(0) tells of a text.
    private static final int NO_TOKEN = 1;
    private static final int CANNOT_STAND = 2;
    private static final int WRONG_NAME = 3;
    private static final int WRONG_NUMBER = 4;
    private static final int SAME_TWICE = 5;
    private static final int ONE_MORE = 6;
    private static final int TOO_DEEP = 7;

    private static final int MOST_TRAYS = 4;
    private static final int MOST_PLACES = 60;
    private static final int MOST_TAPE = 900;
    private static final int MOST_YEARS_TEXT = 300;
    private static final int MOST_ROCKS = 8;
    private static final int MOST_HOLES = 6;
    private static final int MOST_TOLD_LAYERS = 8;
    private static final int MOST_LAYERS = 12;
    private static final int MOST_SLOTS = MOST_HOLES * MOST_LAYERS;
    private static final int MOST_TRIANGLES = 8;
    private static final int MOST_FAULTS = 2;
    private static final int MOST_MARKS = 3;
    private static final int FARTHEST = 999;
    private static final int MOST_THICK = 999;
    private static final int MOST_THROW = 999;
    private static final int MOST_TOLD_COST = 99;
    private static final int MOST_AT_ONCE = 99;
    private static final int MOST_DEEP = 9999;
    private static final int MOST_SEED = 9999;
    private static final int MOST_SEEDS = 10;
    private static final int MOST_LOG_NUMBER = 999999;
    private static final int MOST_WINDOW = 9;
    private static final int FARTHEST_SHIFT = 20;
    // More than any cost, any square of a distance.
    private static final int ABOVE_ALL = 2147483647;

    // The words that are no names, numbered as KEPT_WORDS has them; steps of years bear these numbers, too.
    private static final String KEPT_WORDS = "rock skip unlike costs hole at bed thick triangle fault from to throws lay wear storm move when deep has top loop end stop ";
    private static final int ROCK = 0;
    private static final int SKIP = 1;
    private static final int UNLIKE = 2;
    private static final int COSTS = 3;
    private static final int HOLE = 4;
    private static final int AT = 5;
    private static final int BED = 6;
    private static final int THICK = 7;
    private static final int TRIANGLE = 8;
    private static final int FAULT = 9;
    private static final int FROM = 10;
    private static final int TO = 11;
    private static final int THROWS = 12;
    private static final int LAY = 13;
    private static final int WEAR = 14;
    private static final int STORM = 15;
    private static final int MOVE = 16;
    private static final int WHEN = 17;
    private static final int DEEP = 18;
    private static final int HAS = 19;
    private static final int TOP = 20;
    private static final int LOOP = 21;
    private static final int END = 22;
    private static final int STOP = 23;

    private int status = FINE;
    private long fractionTop = 0;
    private long fractionBottom = 1;
    private final Tray[] trays = new Tray[MOST_TRAYS];
    private final Reader reader = new Reader();
    private final FieldText fieldText = new FieldText();
    private final YearsText yearsText = new YearsText();
    private Ground ground = new Ground();
    private Ground spareGround = new Ground();
    private Years years = new Years();
    private Years spareYears = new Years();
    private final Ground[] markedGrounds = new Ground[MOST_MARKS];
    private final Years[] markedYears = new Years[MOST_MARKS];
    private int marks = 0;
    private final Match latestMatch = new Match();
    private final Beds beds = new Beds();
    private final Logs logs = new Logs();
    private final Life life = new Life();
    private final Life trial = new Life();

    public BoreDesk() {
        for (int i = 0; i < MOST_TRAYS; i++) {
            trays[i] = new Tray();
        }
        for (int i = 0; i < MOST_MARKS; i++) {
            markedGrounds[i] = new Ground();
            markedYears[i] = new Years();
        }
    }

    public int status() {
        return status;
    }

    public long top() {
        return fractionTop;
    }

    public long bottom() {
        return fractionBottom;
    }

    // ---- TRAYS

    public boolean tray(int tray, int sort, int many) {
        if (!isTray(tray) || !isWithin(sort, 0, 3) || !isWithin(many, 0, MOST_PLACES)) {
            return deny(BAD_NUMBER);
        }
        trays[tray].renew(sort, many);
        return grant();
    }

    public boolean write(int tray, int place, long v) {
        int wrong = placeStatus(tray, place);
        if (wrong != FINE) {
            return deny(wrong);
        }
        trays[tray].put(place, v);
        return grant();
    }

    public long read(int tray, int place) {
        int wrong = placeStatus(tray, place);
        if (wrong != FINE) {
            return refuse(wrong);
        }
        status = FINE;
        return trays[tray].numbers[place];
    }

    public boolean pour(int from, int place, int to, int at, int many) {
        if (!isTray(from) || !isTray(to) || place < 0 || at < 0 || many < 0) {
            return deny(BAD_NUMBER);
        }
        Tray source = trays[from];
        Tray target = trays[to];
        if (source.isMissing() || target.isMissing()) {
            return deny(TRAY_MISSING);
        }
        if (source.sort != target.sort) {
            return deny(UNLIKE_SORTS);
        }
        if (!source.hasRow(place, many) || !target.hasRow(at, many)) {
            return deny(TOO_FEW);
        }
        System.arraycopy(source.numbers, place, target.numbers, at, many);
        return grant();
    }

    // ---- texts

    public int feed(int a, int b, int c, int d, int e) {
        if (!reader.hasRoomFor(20)) {
            return NONE;
        }
        reader.addInt(a);
        reader.addInt(b);
        reader.addInt(c);
        reader.addInt(d);
        reader.addInt(e);
        return reader.fed;
    }

    public int field(int n) {
        if (n < 0 || n > reader.fed) {
            return refuse(BAD_NUMBER);
        }
        reader.begin(n);
        if (!fieldText.isTaken(reader, spareGround)) {
            return refuse(FAULTY_TEXT);
        }
        Ground old = ground;
        ground = spareGround;
        spareGround = old;
        years.forget();
        beds.turnStale();
        return answer(ground.holes);
    }

    public int years(int n) {
        if (n < 0 || n > reader.fed || n > MOST_YEARS_TEXT) {
            return refuse(BAD_NUMBER);
        }
        reader.begin(n);
        if (!yearsText.isTaken(reader, ground, spareYears)) {
            return refuse(FAULTY_TEXT);
        }
        Years old = years;
        years = spareYears;
        spareYears = old;
        return answer(years.steps);
    }

    public int fault(int what) {
        if (!reader.hasRead) {
            return NONE;
        }
        switch (what) {
            case 0:
                return reader.fault;
            case 1:
                return reader.faultPlace;
            default:
                return NONE;
        }
    }

    public int told(int what) {
        switch (what) {
            case 0:
                return answer(ground.rocks);
            case 1:
                return answer(ground.holes);
            case 2:
                return answer(ground.triangles);
            case 3:
                return answer(ground.faults);
            default:
                return refuse(BAD_NUMBER);
        }
    }

    public int skip(int rock) {
        if (!ground.isRock(rock)) {
            return refuse(BAD_NUMBER);
        }
        return answer(ground.skipCost[rock]);
    }

    public int unlike(int a, int b) {
        if (!ground.isRock(a) || !ground.isRock(b)) {
            return refuse(BAD_NUMBER);
        }
        return answer(ground.costOfTwo(a, b));
    }

    public int hole(int hole, int what) {
        if (!ground.isHole(hole)) {
            return refuse(BAD_NUMBER);
        }
        switch (what) {
            case 0:
                return answer(ground.x[hole]);
            case 1:
                return answer(ground.y[hole]);
            case 2:
                return answer(ground.layers[hole]);
            case 3:
                return answer(ground.allThick(hole));
            case 4:
                return answer(ground.thrownDown(hole));
            default:
                return refuse(BAD_NUMBER);
        }
    }

    public int layer(int hole, int layer, int what) {
        if (!ground.isLayer(hole, layer)) {
            return refuse(BAD_NUMBER);
        }
        switch (what) {
            case 0:
                return answer(ground.rock[slot(hole, layer)]);
            case 1:
                return answer(ground.thick[slot(hole, layer)]);
            case 2:
                return answer(ground.depthOf(hole, layer));
            default:
                return refuse(BAD_NUMBER);
        }
    }

    public int layerAt(int hole, int depth) {
        if (!ground.isHole(hole) || depth < 0) {
            return refuse(BAD_NUMBER);
        }
        return answerOrNoSuch(ground.layerWithUnit(hole, depth - ground.thrownDown(hole)));
    }

    public int side(int fault, int hole) {
        if (!ground.isFault(fault) || !ground.isHole(hole)) {
            return refuse(BAD_NUMBER);
        }
        return answerYes(ground.isOnRight(fault, hole));
    }

    // ---- matches

    public int match(int a, int b) {
        if (!ground.isHole(a) || !ground.isHole(b) || a == b) {
            return refuse(BAD_NUMBER);
        }
        return answer(latestMatch.workOut(ground, a, b));
    }

    public int pairOf(int layer) {
        return answerOrNoSuch(latestMatch.mateOf(layer));
    }

    public int pairs() {
        if (latestMatch.firstLayers == NONE) {
            return refuse(NO_SUCH);
        }
        return answer(latestMatch.paired);
    }

    public int tree(int k, int what) {
        if (!isWithin(what, 0, 2)) {
            return refuse(BAD_NUMBER);
        }
        beds.refresh(ground);
        if (k < 0 || k >= beds.couples) {
            return refuse(NO_SUCH);
        }
        if (what == 2) {
            return answer(beds.square[k]);
        }
        return answer(what == 0 ? beds.first[k] : beds.second[k]);
    }

    public int treeCost() {
        beds.refresh(ground);
        return answer(beds.cost);
    }

    // ---- BEDS

    public int beds() {
        beds.refresh(ground);
        return answer(beds.many);
    }

    public int bedOf(int hole, int layer) {
        if (!ground.isLayer(hole, layer)) {
            return refuse(BAD_NUMBER);
        }
        beds.refresh(ground);
        return answer(beds.bedAt[slot(hole, layer)]);
    }

    public int holesOf(int bed) {
        if (!isBed(bed)) {
            return refuse(BAD_NUMBER);
        }
        return answer(beds.setOfHoles(bed));
    }

    public int bed(int bed, int hole, int what) {
        if (!isBed(bed) || !ground.isHole(hole) || !isWithin(what, 0, 2)) {
            return refuse(BAD_NUMBER);
        }
        int layer = beds.layerIn(bed, hole);
        if (layer == NONE) {
            return refuse(NO_SUCH);
        }
        if (what == 2) {
            return answer(layer);
        }
        return answer(what == 0 ? ground.depthOf(hole, layer) : ground.thick[slot(hole, layer)]);
    }

    public int above(int a, int b) {
        if (!isBed(a) || !isBed(b)) {
            return refuse(BAD_NUMBER);
        }
        return answerYes(beds.isHigher(a, b));
    }

    public int order(int k) {
        if (k < 0) {
            return refuse(BAD_NUMBER);
        }
        beds.refresh(ground);
        if (k >= beds.many) {
            return refuse(NO_SUCH);
        }
        if (!beds.isOrdered()) {
            return refuse(CANNOT_BE);
        }
        return answer(beds.inOrder[k]);
    }

    public int widest() {
        beds.refresh(ground);
        return answerOrNoSuch(beds.widestBed());
    }

    // ---- surfaces

    public boolean area(int triangle) {
        if (!ground.isTriangle(triangle)) {
            return deny(BAD_NUMBER);
        }
        return tell(ground.twiceArea(triangle), 2);
    }

    public int across(int triangle) {
        if (!ground.isTriangle(triangle)) {
            return refuse(BAD_NUMBER);
        }
        return answerYes(ground.isSplit(triangle));
    }

    public int triangleAt(int x, int y) {
        if (!isPoint(x, y)) {
            return refuse(BAD_NUMBER);
        }
        return answerOrNoSuch(ground.triangleWith(x, y));
    }

    public boolean topAt(int bed, int x, int y) {
        if (!isBed(bed) || !isPoint(x, y)) {
            return deny(BAD_NUMBER);
        }
        int triangle = ground.triangleWith(x, y);
        if (triangle == NONE) {
            return deny(NO_SUCH);
        }
        if (!hasAtCorners(bed, triangle)) {
            return deny(CANNOT_BE);
        }
        long sum = 0;
        for (int corner = 0; corner < 3; corner++) {
            long weight = ground.weight(triangle, corner, x, y);
            sum += weight * depthAtCorner(bed, triangle, corner);
        }
        return tell(sum, ground.turn(triangle));
    }

    public boolean thickAt(int bed, int x, int y) {
        if (!isBed(bed) || !isPoint(x, y)) {
            return deny(BAD_NUMBER);
        }
        int triangle = ground.triangleWith(x, y);
        if (triangle == NONE) {
            return deny(NO_SUCH);
        }
        long sum = 0;
        for (int corner = 0; corner < 3; corner++) {
            long weight = ground.weight(triangle, corner, x, y);
            sum += weight * thickAtCorner(bed, triangle, corner);
        }
        return tell(sum, ground.turn(triangle));
    }

    public boolean volume(int bed, int triangle) {
        if (!isBed(bed) || !ground.isTriangle(triangle)) {
            return deny(BAD_NUMBER);
        }
        if (ground.isSplit(triangle)) {
            return deny(CANNOT_BE);
        }
        return tell(sixfoldVolume(bed, triangle), 6);
    }

    public boolean volumeOf(int bed) {
        if (!isBed(bed)) {
            return deny(BAD_NUMBER);
        }
        long sum = 0;
        for (int triangle = 0; triangle < ground.triangles; triangle++) {
            if (!ground.isSplit(triangle)) {
                sum += sixfoldVolume(bed, triangle);
            }
        }
        return tell(sum, 6);
    }

    public boolean tilt(int bed, int triangle, int what) {
        if (!isBed(bed) || !ground.isTriangle(triangle) || !isWithin(what, 0, 1)) {
            return deny(BAD_NUMBER);
        }
        if (ground.isSplit(triangle) || !hasAtCorners(bed, triangle)) {
            return deny(CANNOT_BE);
        }
        long start = depthAtCorner(bed, triangle, 0);
        long second = depthAtCorner(bed, triangle, 1) - start;
        long third = depthAtCorner(bed, triangle, 2) - start;
        long growth;
        if (what == 0) {
            growth = second * ground.sideAlongY(triangle, 2) - third * ground.sideAlongY(triangle, 1);
        } else {
            growth = third * ground.sideAlongX(triangle, 1) - second * ground.sideAlongX(triangle, 2);
        }
        return tell(growth, ground.turn(triangle));
    }

    public int deepest(int bed) {
        if (!isBed(bed)) {
            return refuse(BAD_NUMBER);
        }
        int best = NONE;
        int bestDepth = NONE;
        for (int hole = 0; hole < ground.holes; hole++) {
            int layer = beds.layerIn(bed, hole);
            if (layer != NONE && ground.depthOf(hole, layer) > bestDepth) {
                best = hole;
                bestDepth = ground.depthOf(hole, layer);
            }
        }
        return answer(best);
    }

    public int shared(int a, int b) {
        if (!ground.isHole(a) || !ground.isHole(b) || a == b) {
            return refuse(BAD_NUMBER);
        }
        beds.refresh(ground);
        return answer(beds.inBoth(a, b));
    }

    public int gaps(int hole) {
        if (!ground.isHole(hole)) {
            return refuse(BAD_NUMBER);
        }
        beds.refresh(ground);
        return answer(beds.gapsIn(hole));
    }

    public int draws(int hole, int tray) {
        if (!ground.isHole(hole) || !isTray(tray)) {
            return refuse(BAD_NUMBER);
        }
        if (trays[tray].isMissing()) {
            return refuse(TRAY_MISSING);
        }
        return answer(logs.draw(trays[tray], ground, hole));
    }

    // ---- LOGS

    public int picks(int tray, int many, int mark, int window) {
        if (!isWithin(mark, 0, MOST_LOG_NUMBER) || !isWithin(window, 1, MOST_WINDOW)) {
            return refuse(BAD_NUMBER);
        }
        int wrong = logStatus(tray, many, MOST_LOG_NUMBER);
        if (wrong != FINE) {
            return refuse(wrong);
        }
        return answer(logs.pick(trays[tray], many, mark, window));
    }

    public int pickAt(int k) {
        if (k < 0 || k >= logs.picked) {
            return refuse(NO_SUCH);
        }
        return answer(logs.pickPlace[k]);
    }

    public int fill(int tray, int many) {
        int wrong = logStatus(tray, many, MOST_LOG_NUMBER);
        if (wrong != FINE) {
            return refuse(wrong);
        }
        return answer(trays[tray].fillGaps(many));
    }

    public int runs(int tray, int many) {
        int wrong = logStatus(tray, many, MOST_LOG_NUMBER);
        if (wrong != FINE) {
            return refuse(wrong);
        }
        return answer(trays[tray].rowsOfAlike(many));
    }

    public int agrees(int tray, int many, int hole) {
        if (!ground.isHole(hole)) {
            return refuse(BAD_NUMBER);
        }
        int wrong = logStatus(tray, many, ground.rocks - 1);
        if (wrong != FINE) {
            return refuse(wrong);
        }
        logs.unfold(ground, hole);
        return answer(logs.alike(trays[tray], many, 0));
    }

    public int shift(int tray, int many, int hole, int what) {
        if (!ground.isHole(hole) || !isWithin(what, 0, 1)) {
            return refuse(BAD_NUMBER);
        }
        int wrong = logStatus(tray, many, ground.rocks - 1);
        if (wrong != FINE) {
            return refuse(wrong);
        }
        logs.unfold(ground, hole);
        int best = logs.bestShift(trays[tray], many);
        return answer(what == 0 ? best : logs.alike(trays[tray], many, best));
    }

    public int likest(int tray, int many) {
        int wrong = logStatus(tray, many, ground.rocks - 1);
        if (wrong != FINE) {
            return refuse(wrong);
        }
        int best = NONE;
        int bestAlike = NONE;
        for (int hole = 0; hole < ground.holes; hole++) {
            logs.unfold(ground, hole);
            int alike = logs.alike(trays[tray], many, 0);
            if (alike > bestAlike) {
                best = hole;
                bestAlike = alike;
            }
        }
        return answerOrNoSuch(best);
    }

    // ---- what becomes of it

    public int lay(int hole, int rock, int thick) {
        if (!ground.isHole(hole) || !ground.isRock(rock) || !isWithin(thick, 1, MOST_AT_ONCE)) {
            return refuse(BAD_NUMBER);
        }
        int wrong = ground.layOn(hole, rock, thick);
        if (wrong != FINE) {
            return refuse(wrong);
        }
        beds.turnStale();
        return answer(ground.layers[hole]);
    }

    public int wear(int hole, int thick) {
        if (!ground.isHole(hole) || !isWithin(thick, 1, MOST_AT_ONCE)) {
            return refuse(BAD_NUMBER);
        }
        beds.turnStale();
        return answer(ground.wearOff(hole, thick));
    }

    public boolean throwing(int fault, int much) {
        if (!ground.isFault(fault) || !isWithin(much, 0, MOST_THROW)) {
            return deny(BAD_NUMBER);
        }
        ground.faultThrow[fault] = much;
        return grant();
    }

    public int live(int seed) {
        if (!isWithin(seed, 0, MOST_SEED)) {
            return refuse(BAD_NUMBER);
        }
        if (!years.isTold) {
            return refuse(NO_SUCH);
        }
        life.run(years, ground, seed);
        beds.turnStale();
        return answer(life.steps);
    }

    public int lived(int what) {
        if (!isWithin(what, 0, 3)) {
            return refuse(BAD_NUMBER);
        }
        if (!life.hasRun) {
            return refuse(NO_SUCH);
        }
        switch (what) {
            case 0:
                return answer(life.missed);
            case 1:
                return answer(life.laid);
            case 2:
                return answer(life.worn);
            default:
                return answerYes(life.isCutShort);
        }
    }

    public boolean odds(int hole, int rock, int seed, int many) {
        if (!ground.isHole(hole) || !ground.isRock(rock) || !isWithin(many, 1, MOST_SEEDS)) {
            return deny(BAD_NUMBER);
        }
        if (!isWithin(seed, 0, MOST_SEED - many + 1)) {
            return deny(BAD_NUMBER);
        }
        if (!years.isTold) {
            return deny(NO_SUCH);
        }
        int having = 0;
        for (int i = 0; i < many; i++) {
            spareGround.takeOver(ground);
            trial.run(years, spareGround, seed + i);
            if (spareGround.hasRock(hole, rock)) {
                having++;
            }
        }
        return tell(having, many);
    }

    // ---- MARKS

    public int mark() {
        if (marks >= MOST_MARKS) {
            return refuse(TOO_MANY);
        }
        markedGrounds[marks].takeOver(ground);
        markedYears[marks].takeOver(years);
        marks++;
        return answer(marks);
    }

    public int back() {
        if (marks <= 0) {
            return refuse(NO_SUCH);
        }
        marks--;
        ground.takeOver(markedGrounds[marks]);
        years.takeOver(markedYears[marks]);
        beds.turnStale();
        return answer(marks);
    }

    // ---- how calls answer

    private int refuse(int why) {
        status = why;
        return NONE;
    }

    private boolean deny(int why) {
        status = why;
        return false;
    }

    private int answer(int value) {
        status = FINE;
        return value;
    }

    private int answerYes(boolean yes) {
        return answer(yes ? 1 : 0);
    }

    private int answerOrNoSuch(int value) {
        return value == NONE ? refuse(NO_SUCH) : answer(value);
    }

    private boolean grant() {
        status = FINE;
        return true;
    }

    private boolean tell(long top, long bottom) {
        long divisor = commonDivisor(top, bottom);
        if (divisor == 0) {
            return deny(CANNOT_BE);
        }
        long sign = bottom < 0 ? -1 : 1;
        fractionTop = sign * (top / divisor);
        fractionBottom = sign * (bottom / divisor);
        return grant();
    }

    private static long commonDivisor(long a, long b) {
        long greater = Math.abs(a);
        long less = Math.abs(b);
        // Longs need fewer than a hundred turns.
        for (int turn = 0; turn < 100 && less != 0; turn++) {
            long rest = greater % less;
            greater = less;
            less = rest;
        }
        return greater;
    }

    // ---- what arguments may be

    private static boolean isWithin(int number, int least, int most) {
        return number >= least && number <= most;
    }

    private static boolean isTray(int tray) {
        return isWithin(tray, 0, MOST_TRAYS - 1);
    }

    private static boolean isPoint(int x, int y) {
        return isWithin(x, 0, FARTHEST) && isWithin(y, 0, FARTHEST);
    }

    private boolean isBed(int bed) {
        beds.refresh(ground);
        return bed >= 0 && bed < beds.many;
    }

    private int placeStatus(int tray, int place) {
        if (!isTray(tray)) {
            return BAD_NUMBER;
        }
        if (trays[tray].isMissing()) {
            return TRAY_MISSING;
        }
        return trays[tray].hasRow(place, 1) ? FINE : TOO_FEW;
    }

    private int logStatus(int tray, int many, int greatest) {
        if (!isTray(tray) || !isWithin(many, 1, MOST_PLACES)) {
            return BAD_NUMBER;
        }
        if (trays[tray].isMissing()) {
            return TRAY_MISSING;
        }
        if (!trays[tray].hasRow(0, many)) {
            return TOO_FEW;
        }
        return trays[tray].areWithin(many, greatest) ? FINE : BAD_ENTRY;
    }

    // ---- beds over triangles

    private boolean hasAtCorners(int bed, int triangle) {
        for (int corner = 0; corner < 3; corner++) {
            if (beds.layerIn(bed, ground.cornerHole(triangle, corner)) == NONE) {
                return false;
            }
        }
        return true;
    }

    private long depthAtCorner(int bed, int triangle, int corner) {
        int hole = ground.cornerHole(triangle, corner);
        return ground.depthOf(hole, beds.layerIn(bed, hole));
    }

    private long thickAtCorner(int bed, int triangle, int corner) {
        int hole = ground.cornerHole(triangle, corner);
        int layer = beds.layerIn(bed, hole);
        return layer == NONE ? 0 : ground.thick[slot(hole, layer)];
    }

    private long sixfoldVolume(int bed, int triangle) {
        long sum = 0;
        for (int corner = 0; corner < 3; corner++) {
            sum += thickAtCorner(bed, triangle, corner);
        }
        return sum * ground.twiceArea(triangle);
    }

    private static int slot(int hole, int layer) {
        return hole * MOST_LAYERS + layer;
    }

    /** A row of numbers, or none while it is missing. */
    private static final class Tray {
        private final long[] numbers = new long[MOST_PLACES];
        private int sort = 0;
        private int many = NONE;

        boolean isMissing() {
            return many == NONE;
        }

        boolean hasRow(int place, int length) {
            return place >= 0 && length >= 0 && (long) place + length <= many;
        }

        void renew(int newSort, int newMany) {
            sort = newSort;
            many = newMany;
            for (int i = 0; i < MOST_PLACES; i++) {
                numbers[i] = 0;
            }
        }

        void put(int place, long v) {
            switch (sort) {
                case 0:
                    numbers[place] = (byte) v;
                    break;
                case 1:
                    numbers[place] = (short) v;
                    break;
                case 2:
                    numbers[place] = (int) v;
                    break;
                default:
                    numbers[place] = v;
                    break;
            }
        }

        boolean areWithin(int length, long greatest) {
            for (int i = 0; i < length; i++) {
                if (numbers[i] < NONE || numbers[i] > greatest) {
                    return false;
                }
            }
            return true;
        }

        int fillGaps(int length) {
            int filled = 0;
            for (int i = 1; i < length; i++) {
                if (numbers[i] == NONE && numbers[i - 1] != NONE) {
                    numbers[i] = numbers[i - 1];
                    filled++;
                }
            }
            return filled;
        }

        int rowsOfAlike(int length) {
            int rows = length > 0 ? 1 : 0;
            for (int i = 1; i < length; i++) {
                if (numbers[i] != numbers[i - 1]) {
                    rows++;
                }
            }
            return rows;
        }
    }

    /** The field with all that became of it. */
    private static final class Ground {
        private int rocks = 0;
        private final long[] rockName = new long[MOST_ROCKS];
        private final int[] skipCost = new int[MOST_ROCKS];
        private final int[] unlikeCost = new int[MOST_ROCKS * MOST_ROCKS];
        private int holes = 0;
        private final long[] holeName = new long[MOST_HOLES];
        private final int[] x = new int[MOST_HOLES];
        private final int[] y = new int[MOST_HOLES];
        private final int[] layers = new int[MOST_HOLES];
        private final int[] rock = new int[MOST_SLOTS];
        private final int[] thick = new int[MOST_SLOTS];
        private int triangles = 0;
        private final int[] corners = new int[MOST_TRIANGLES * 3];
        private int faults = 0;
        private final long[] faultName = new long[MOST_FAULTS];
        private final int[] faultLine = new int[MOST_FAULTS * 4];
        private final int[] faultThrow = new int[MOST_FAULTS];

        void clear() {
            rocks = 0;
            holes = 0;
            triangles = 0;
            faults = 0;
        }

        void takeOver(Ground other) {
            rocks = other.rocks;
            holes = other.holes;
            triangles = other.triangles;
            faults = other.faults;
            System.arraycopy(other.rockName, 0, rockName, 0, MOST_ROCKS);
            System.arraycopy(other.skipCost, 0, skipCost, 0, MOST_ROCKS);
            System.arraycopy(other.unlikeCost, 0, unlikeCost, 0, MOST_ROCKS * MOST_ROCKS);
            System.arraycopy(other.holeName, 0, holeName, 0, MOST_HOLES);
            System.arraycopy(other.x, 0, x, 0, MOST_HOLES);
            System.arraycopy(other.y, 0, y, 0, MOST_HOLES);
            System.arraycopy(other.layers, 0, layers, 0, MOST_HOLES);
            System.arraycopy(other.rock, 0, rock, 0, MOST_SLOTS);
            System.arraycopy(other.thick, 0, thick, 0, MOST_SLOTS);
            System.arraycopy(other.corners, 0, corners, 0, MOST_TRIANGLES * 3);
            System.arraycopy(other.faultName, 0, faultName, 0, MOST_FAULTS);
            System.arraycopy(other.faultLine, 0, faultLine, 0, MOST_FAULTS * 4);
            System.arraycopy(other.faultThrow, 0, faultThrow, 0, MOST_FAULTS);
        }

        boolean isRock(int number) {
            return number >= 0 && number < rocks;
        }

        boolean isHole(int number) {
            return number >= 0 && number < holes;
        }

        boolean isLayer(int hole, int layer) {
            return isHole(hole) && layer >= 0 && layer < layers[hole];
        }

        boolean isTriangle(int number) {
            return number >= 0 && number < triangles;
        }

        boolean isFault(int number) {
            return number >= 0 && number < faults;
        }

        int rockNamed(long name) {
            return placeOf(name, rockName, rocks);
        }

        int holeNamed(long name) {
            return placeOf(name, holeName, holes);
        }

        int faultNamed(long name) {
            return placeOf(name, faultName, faults);
        }

        boolean isTakenName(long name) {
            return rockNamed(name) != NONE || holeNamed(name) != NONE || faultNamed(name) != NONE;
        }

        private static int placeOf(long name, long[] names, int many) {
            for (int i = 0; i < many; i++) {
                if (names[i] == name) {
                    return i;
                }
            }
            return NONE;
        }

        void addRock(long name, int cost) {
            rockName[rocks] = name;
            skipCost[rocks] = cost;
            for (int other = 0; other < rocks; other++) {
                setCostOfTwo(other, rocks, 9);
            }
            setCostOfTwo(rocks, rocks, 0);
            rocks++;
        }

        void setCostOfTwo(int a, int b, int cost) {
            unlikeCost[a * MOST_ROCKS + b] = cost;
            unlikeCost[b * MOST_ROCKS + a] = cost;
        }

        int costOfTwo(int a, int b) {
            return unlikeCost[a * MOST_ROCKS + b];
        }

        boolean isHoleAt(int atX, int atY) {
            for (int hole = 0; hole < holes; hole++) {
                if (x[hole] == atX && y[hole] == atY) {
                    return true;
                }
            }
            return false;
        }

        void addHole(long name, int atX, int atY) {
            holeName[holes] = name;
            x[holes] = atX;
            y[holes] = atY;
            layers[holes] = 0;
            holes++;
        }

        /** A layer below all others of the hole told last. */
        void addLayer(int kind, int much) {
            int hole = holes - 1;
            int slot = slot(hole, layers[hole]);
            rock[slot] = kind;
            thick[slot] = much;
            layers[hole]++;
        }

        int allThick(int hole) {
            return thickAbove(hole, layers[hole]);
        }

        private int thickAbove(int hole, int layer) {
            int sum = 0;
            for (int i = 0; i < layer; i++) {
                sum += thick[slot(hole, i)];
            }
            return sum;
        }

        int thrownDown(int hole) {
            int sum = 0;
            for (int fault = 0; fault < faults; fault++) {
                if (isOnRight(fault, hole)) {
                    sum += faultThrow[fault];
                }
            }
            return sum;
        }

        int depthOf(int hole, int layer) {
            return thickAbove(hole, layer) + thrownDown(hole);
        }

        /** The layer with a unit, told from the top of the hole itself. */
        int layerWithUnit(int hole, int unit) {
            if (unit < 0) {
                return NONE;
            }
            int foot = 0;
            for (int layer = 0; layer < layers[hole]; layer++) {
                foot += thick[slot(hole, layer)];
                if (unit < foot) {
                    return layer;
                }
            }
            return NONE;
        }

        boolean hasRock(int hole, int kind) {
            for (int layer = 0; layer < layers[hole]; layer++) {
                if (rock[slot(hole, layer)] == kind) {
                    return true;
                }
            }
            return false;
        }

        boolean hasRockOnTop(int hole, int kind) {
            return layers[hole] > 0 && rock[slot(hole, 0)] == kind;
        }

        /** Lays a rock on a hole, or tells the status that stands against it. */
        int layOn(int hole, int kind, int much) {
            int top = slot(hole, 0);
            if (hasRockOnTop(hole, kind)) {
                if (thick[top] + much > MOST_THICK) {
                    return CANNOT_BE;
                }
                thick[top] += much;
                return FINE;
            }
            if (layers[hole] >= MOST_LAYERS) {
                return TOO_MANY;
            }
            System.arraycopy(rock, top, rock, top + 1, layers[hole]);
            System.arraycopy(thick, top, thick, top + 1, layers[hole]);
            rock[top] = kind;
            thick[top] = much;
            layers[hole]++;
            return FINE;
        }

        int wearOff(int hole, int much) {
            int top = slot(hole, 0);
            int left = much;
            int gone = 0;
            for (int layer = 0; layer < layers[hole] && left > 0; layer++) {
                int part = Math.min(left, thick[top + layer]);
                thick[top + layer] -= part;
                left -= part;
                if (thick[top + layer] == 0) {
                    gone++;
                }
            }
            layers[hole] -= gone;
            System.arraycopy(rock, top + gone, rock, top, layers[hole]);
            System.arraycopy(thick, top + gone, thick, top, layers[hole]);
            return much - left;
        }

        void addFault(long name, int[] points, int much) {
            faultName[faults] = name;
            System.arraycopy(points, 0, faultLine, faults * 4, 4);
            faultThrow[faults] = much;
            faults++;
        }

        boolean isOnRight(int fault, int hole) {
            int start = fault * 4;
            return turnOf(faultLine[start], faultLine[start + 1],
                    faultLine[start + 2], faultLine[start + 3], x[hole], y[hole]) < 0;
        }

        /** Above 0 if three points turn left, 0 if they are on one line; twice what they enclose. */
        private static int turnOf(int ax, int ay, int bx, int by, int cx, int cy) {
            return (bx - ax) * (cy - ay) - (cx - ax) * (by - ay);
        }

        int turnOfHoles(int a, int b, int c) {
            return turnOf(x[a], y[a], x[b], y[b], x[c], y[c]);
        }

        void addTriangle(int a, int b, int c) {
            corners[triangles * 3] = a;
            corners[triangles * 3 + 1] = b;
            corners[triangles * 3 + 2] = c;
            triangles++;
        }

        int cornerHole(int triangle, int corner) {
            return corners[triangle * 3 + corner];
        }

        int turn(int triangle) {
            return turnOfHoles(cornerHole(triangle, 0), cornerHole(triangle, 1), cornerHole(triangle, 2));
        }

        int twiceArea(int triangle) {
            return Math.abs(turn(triangle));
        }

        int sideAlongX(int triangle, int corner) {
            return x[cornerHole(triangle, corner)] - x[cornerHole(triangle, 0)];
        }

        int sideAlongY(int triangle, int corner) {
            return y[cornerHole(triangle, corner)] - y[cornerHole(triangle, 0)];
        }

        /** How much a corner counts at a point; the three together are the triangle's turn. */
        int weight(int triangle, int corner, int atX, int atY) {
            int second = cornerHole(triangle, (corner + 1) % 3);
            int third = cornerHole(triangle, (corner + 2) % 3);
            return turnOf(atX, atY, x[second], y[second], x[third], y[third]);
        }

        boolean isSplit(int triangle) {
            for (int fault = 0; fault < faults; fault++) {
                boolean right = isOnRight(fault, cornerHole(triangle, 0));
                if (isOnRight(fault, cornerHole(triangle, 1)) != right
                        || isOnRight(fault, cornerHole(triangle, 2)) != right) {
                    return true;
                }
            }
            return false;
        }

        int triangleWith(int atX, int atY) {
            for (int triangle = 0; triangle < triangles; triangle++) {
                if (!isSplit(triangle) && isInside(triangle, atX, atY)) {
                    return triangle;
                }
            }
            return NONE;
        }

        private boolean isInside(int triangle, int atX, int atY) {
            int way = turn(triangle) < 0 ? -1 : 1;
            for (int corner = 0; corner < 3; corner++) {
                if (way * weight(triangle, corner, atX, atY) < 0) {
                    return false;
                }
            }
            return true;
        }
    }

    /** The tape, and the tokens of the text that is read from it. */
    private static final class Reader {
        private static final int END_OF_TEXT = 0;
        private static final int WORD = 1;
        private static final int NUMBER = 2;
        private static final int SIGN = 3;
        private static final int NOTHING = 4;
        private static final int LONGEST_NAME = 8;
        private static final int LONGEST_NUMBER = 4;
        private static final int MOST_TOKENS = MOST_TAPE + 1;

        private final byte[] tape = new byte[MOST_TAPE];
        private int fed = 0;
        private final int[] kinds = new int[MOST_TOKENS];
        private final int[] starts = new int[MOST_TOKENS];
        // The number, the sign, or which of the kept words it is.
        private final int[] values = new int[MOST_TOKENS];
        // The letters of a word as one number, five bits each; 0 if it is too long for a name.
        private final long[] names = new long[MOST_TOKENS];
        private int tokens = 0;
        private int now = 0;
        private boolean hasRead = false;
        private int fault = 0;
        private int faultPlace = NONE;

        boolean hasRoomFor(int bytes) {
            return fed + bytes <= MOST_TAPE;
        }

        void addInt(int four) {
            for (int shift = 24; shift >= 0 && fed < MOST_TAPE; shift -= 8) {
                tape[fed] = (byte) (four >> shift);
                fed++;
            }
        }

        /** Reads the tokens of the first bytes; the tape is empty then. */
        void begin(int bytes) {
            tokens = 0;
            now = 0;
            hasRead = true;
            fault = 0;
            faultPlace = NONE;
            int at = 0;
            for (int turn = 0; turn < MOST_TAPE && at < bytes; turn++) {
                at = isBlank(tape[at]) ? at + 1 : readToken(at, bytes);
            }
            addToken(END_OF_TEXT, bytes, 0, 0);
            fed = 0;
        }

        private static boolean isBlank(int sign) {
            return sign == ' ' || sign == '\n';
        }

        private static boolean isLetter(int sign) {
            return sign >= 'a' && sign <= 'z';
        }

        private static boolean isDigit(int sign) {
            return sign >= '0' && sign <= '9';
        }

        private void addToken(int kind, int start, int value, long name) {
            kinds[tokens] = kind;
            starts[tokens] = start;
            values[tokens] = value;
            names[tokens] = name;
            tokens++;
        }

        private int readToken(int start, int end) {
            int sign = tape[start];
            if (isLetter(sign)) {
                return readWord(start, end);
            }
            if (isDigit(sign)) {
                return readNumber(start, end);
            }
            boolean known = sign == ';' || sign == '<' || sign == '>' || sign == '=';
            addToken(known ? SIGN : NOTHING, start, sign, 0);
            return start + 1;
        }

        private int readWord(int start, int end) {
            int behind = start;
            long letters = 0;
            while (behind < end && isLetter(tape[behind])) {
                letters = behind - start < LONGEST_NAME ? letters * 32 + (tape[behind] - 'a' + 1) : 0;
                behind++;
            }
            if (behind - start > LONGEST_NAME) {
                letters = 0;
            }
            addToken(WORD, start, keptWord(start, behind), letters);
            return behind;
        }

        private int readNumber(int start, int end) {
            int behind = start;
            int value = 0;
            while (behind < end && isDigit(tape[behind])) {
                value = behind - start < LONGEST_NUMBER ? value * 10 + (tape[behind] - '0') : 0;
                behind++;
            }
            addToken(behind - start > LONGEST_NUMBER ? NOTHING : NUMBER, start, value, 0);
            return behind;
        }

        private int keptWord(int start, int behind) {
            int word = 0;
            int first = 0;
            for (int i = 0; i < KEPT_WORDS.length(); i++) {
                if (KEPT_WORDS.charAt(i) == ' ') {
                    if (i - first == behind - start && isSpelt(first, start, behind)) {
                        return word;
                    }
                    word++;
                    first = i + 1;
                }
            }
            return NONE;
        }

        private boolean isSpelt(int first, int start, int behind) {
            for (int i = start; i < behind; i++) {
                if (tape[i] != KEPT_WORDS.charAt(first + i - start)) {
                    return false;
                }
            }
            return true;
        }

        boolean isAtEnd() {
            return kinds[now] == END_OF_TEXT;
        }

        void goOn() {
            if (now < tokens - 1) {
                now++;
            }
        }

        /** Keeps a fault at the token; what is no token at all is a fault of the least kind. */
        boolean refuseToken(int why) {
            fault = kinds[now] == NOTHING ? NO_TOKEN : why;
            faultPlace = starts[now];
            return false;
        }

        /** Which of the kept words stands here, if it is one. */
        int word() {
            return kinds[now] == WORD ? values[now] : NONE;
        }

        long name() {
            return names[now];
        }

        int value() {
            return values[now];
        }

        boolean isSign(char sign) {
            return kinds[now] == SIGN && values[now] == sign;
        }

        boolean isName() {
            return kinds[now] == WORD && values[now] == NONE && names[now] != 0;
        }

        /** What is wrong here, if it is not the name that must stand. */
        int nameFault() {
            return isName() ? WRONG_NAME : CANNOT_STAND;
        }

        boolean isNumber(int least, int most) {
            return kinds[now] == NUMBER && values[now] >= least && values[now] <= most;
        }

        /** What is wrong here, if it is not the number that must stand. */
        int numberFault() {
            return kinds[now] == NUMBER ? WRONG_NUMBER : CANNOT_STAND;
        }

        boolean passNumber(int least, int most) {
            if (!isNumber(least, most)) {
                return refuseToken(numberFault());
            }
            goOn();
            return true;
        }

        boolean passWord(int word) {
            if (word() != word) {
                return refuseToken(CANNOT_STAND);
            }
            goOn();
            return true;
        }

        boolean passSemicolon() {
            if (!isSign(';')) {
                return refuseToken(CANNOT_STAND);
            }
            goOn();
            return true;
        }
    }

    /** The parts of a field's text. */
    private static final class FieldText {
        private final int[] points = new int[4];
        private Reader in = null;
        private Ground draft = null;

        boolean isTaken(Reader from, Ground into) {
            in = from;
            draft = into;
            draft.clear();
            for (int turn = 0; turn < MOST_TAPE && !in.isAtEnd(); turn++) {
                if (!passPart()) {
                    return false;
                }
            }
            return true;
        }

        private boolean passPart() {
            switch (in.word()) {
                case ROCK:
                    return passRock();
                case UNLIKE:
                    return passUnlike();
                case HOLE:
                    return passHole();
                case TRIANGLE:
                    return passTriangle();
                case FAULT:
                    return passFault();
                default:
                    return in.refuseToken(CANNOT_STAND);
            }
        }

        private boolean passRock() {
            if (draft.rocks >= MOST_ROCKS) {
                return in.refuseToken(ONE_MORE);
            }
            in.goOn();
            if (!isNewName()) {
                return in.refuseToken(in.nameFault());
            }
            long name = in.name();
            in.goOn();
            int cost = 5;
            if (in.word() == SKIP) {
                in.goOn();
                cost = in.value();
                if (!in.passNumber(0, MOST_TOLD_COST)) {
                    return false;
                }
            }
            draft.addRock(name, cost);
            return in.passSemicolon();
        }

        private boolean passUnlike() {
            in.goOn();
            int a = draft.rockNamed(in.name());
            if (a == NONE) {
                return in.refuseToken(in.nameFault());
            }
            in.goOn();
            int b = draft.rockNamed(in.name());
            if (b == NONE) {
                return in.refuseToken(in.nameFault());
            }
            if (a == b) {
                return in.refuseToken(SAME_TWICE);
            }
            in.goOn();
            if (!in.passWord(COSTS)) {
                return false;
            }
            int cost = in.value();
            if (!in.passNumber(0, MOST_TOLD_COST)) {
                return false;
            }
            draft.setCostOfTwo(a, b, cost);
            return in.passSemicolon();
        }

        private boolean passHole() {
            if (draft.holes >= MOST_HOLES) {
                return in.refuseToken(ONE_MORE);
            }
            in.goOn();
            if (!isNewName()) {
                return in.refuseToken(in.nameFault());
            }
            long name = in.name();
            in.goOn();
            if (!in.passWord(AT)) {
                return false;
            }
            int atX = in.value();
            if (!in.passNumber(0, FARTHEST)) {
                return false;
            }
            if (!in.isNumber(0, FARTHEST)) {
                return in.refuseToken(in.numberFault());
            }
            if (draft.isHoleAt(atX, in.value())) {
                return in.refuseToken(SAME_TWICE);
            }
            draft.addHole(name, atX, in.value());
            in.goOn();
            return passBeds() && in.passSemicolon();
        }

        private boolean passBeds() {
            for (int bed = 0; bed <= MOST_TOLD_LAYERS && in.word() == BED; bed++) {
                if (bed == MOST_TOLD_LAYERS) {
                    return in.refuseToken(ONE_MORE);
                }
                in.goOn();
                int rock = draft.rockNamed(in.name());
                if (rock == NONE) {
                    return in.refuseToken(in.nameFault());
                }
                in.goOn();
                if (!in.passWord(THICK)) {
                    return false;
                }
                int thick = in.value();
                if (!in.passNumber(1, MOST_AT_ONCE)) {
                    return false;
                }
                draft.addLayer(rock, thick);
            }
            return true;
        }

        private boolean passTriangle() {
            if (draft.triangles >= MOST_TRIANGLES) {
                return in.refuseToken(ONE_MORE);
            }
            in.goOn();
            int a = draft.holeNamed(in.name());
            if (a == NONE) {
                return in.refuseToken(in.nameFault());
            }
            in.goOn();
            int b = draft.holeNamed(in.name());
            if (b == NONE) {
                return in.refuseToken(in.nameFault());
            }
            in.goOn();
            int c = draft.holeNamed(in.name());
            if (c == NONE) {
                return in.refuseToken(in.nameFault());
            }
            // Of one hole twice, the three are on one line, too.
            if (draft.turnOfHoles(a, b, c) == 0) {
                return in.refuseToken(SAME_TWICE);
            }
            draft.addTriangle(a, b, c);
            in.goOn();
            return in.passSemicolon();
        }

        private boolean passFault() {
            if (draft.faults >= MOST_FAULTS) {
                return in.refuseToken(ONE_MORE);
            }
            in.goOn();
            if (!isNewName()) {
                return in.refuseToken(in.nameFault());
            }
            long name = in.name();
            in.goOn();
            if (!in.passWord(FROM) || !passCoordinate(0) || !passCoordinate(1)
                    || !in.passWord(TO) || !passCoordinate(2)) {
                return false;
            }
            if (!in.isNumber(0, FARTHEST)) {
                return in.refuseToken(in.numberFault());
            }
            points[3] = in.value();
            if (points[0] == points[2] && points[1] == points[3]) {
                return in.refuseToken(SAME_TWICE);
            }
            in.goOn();
            if (!in.passWord(THROWS)) {
                return false;
            }
            int much = in.value();
            if (!in.passNumber(0, MOST_THROW)) {
                return false;
            }
            draft.addFault(name, points, much);
            return in.passSemicolon();
        }

        private boolean passCoordinate(int which) {
            points[which] = in.value();
            return in.passNumber(0, FARTHEST);
        }

        private boolean isNewName() {
            return in.isName() && !draft.isTakenName(in.name());
        }
    }

    /** The steps of the years, and the ends between them. */
    private static final class Years {
        private static final int MOST_STEPS = 30;
        private static final int MOST_ROWS = 2 * MOST_STEPS;

        private boolean isTold = false;
        private int steps = 0;
        private int rows = 0;
        private final int[] kind = new int[MOST_ROWS];
        private final int[] what = new int[MOST_ROWS];
        private final int[] other = new int[MOST_ROWS];
        private final int[] number = new int[MOST_ROWS];
        private final int[] mate = new int[MOST_ROWS];

        void forget() {
            isTold = false;
            steps = 0;
            rows = 0;
        }

        boolean isFull() {
            return steps >= MOST_STEPS;
        }

        /** A row more; only as many ends may come as there are steps. */
        int add(int newKind) {
            int row = rows;
            kind[row] = newKind;
            what[row] = 0;
            other[row] = 0;
            number[row] = 0;
            mate[row] = row;
            rows++;
            if (newKind != END) {
                steps++;
            }
            return row;
        }

        void takeOver(Years years) {
            isTold = years.isTold;
            steps = years.steps;
            rows = years.rows;
            System.arraycopy(years.kind, 0, kind, 0, MOST_ROWS);
            System.arraycopy(years.what, 0, what, 0, MOST_ROWS);
            System.arraycopy(years.other, 0, other, 0, MOST_ROWS);
            System.arraycopy(years.number, 0, number, 0, MOST_ROWS);
            System.arraycopy(years.mate, 0, mate, 0, MOST_ROWS);
        }
    }

    /** The steps of the years' text. */
    private static final class YearsText {
        private static final int DEEPEST = 3;

        private final int[] open = new int[DEEPEST];
        private int depth = 0;
        private Reader in = null;
        private Ground ground = null;
        private Years draft = null;

        boolean isTaken(Reader from, Ground of, Years into) {
            in = from;
            ground = of;
            draft = into;
            depth = 0;
            draft.forget();
            for (int turn = 0; turn < MOST_TAPE && !in.isAtEnd(); turn++) {
                if (!passStep()) {
                    return false;
                }
            }
            if (depth > 0) {
                return in.refuseToken(CANNOT_STAND);
            }
            draft.isTold = true;
            return true;
        }

        private boolean passStep() {
            int word = in.word();
            if (word == END) {
                return passEnd();
            }
            boolean opens = word == WHEN || word == LOOP;
            if (!opens && !isDoing(word)) {
                return in.refuseToken(CANNOT_STAND);
            }
            if (draft.isFull()) {
                return in.refuseToken(ONE_MORE);
            }
            if (opens && depth >= DEEPEST) {
                return in.refuseToken(TOO_DEEP);
            }
            in.goOn();
            if (word == WHEN) {
                word = in.word();
                if (word != DEEP && word != HAS && word != TOP) {
                    return in.refuseToken(CANNOT_STAND);
                }
                in.goOn();
            }
            int row = draft.add(word);
            if (opens) {
                open[depth] = row;
                depth++;
            }
            return passRest(row, word) && in.passSemicolon();
        }

        private static boolean isDoing(int word) {
            return word == LAY || word == WEAR || word == STORM || word == MOVE || word == STOP;
        }

        private boolean passEnd() {
            if (depth <= 0) {
                return in.refuseToken(CANNOT_STAND);
            }
            depth--;
            int row = draft.add(END);
            draft.mate[row] = open[depth];
            draft.mate[open[depth]] = row;
            in.goOn();
            return in.passSemicolon();
        }

        private boolean passRest(int row, int word) {
            switch (word) {
                case LAY:
                    return passHole(row) && passRock(row) && passNumber(row, 1, MOST_AT_ONCE);
                case WEAR:
                    return passHole(row) && passNumber(row, 1, MOST_AT_ONCE);
                case MOVE:
                    return passFault(row) && passNumber(row, 1, MOST_AT_ONCE);
                case STORM:
                case LOOP:
                    return passNumber(row, 1, MOST_AT_ONCE);
                case DEEP:
                    return passHole(row) && passComparison(row) && passNumber(row, 0, MOST_DEEP);
                case HAS:
                case TOP:
                    return passHole(row) && passRock(row);
                default:
                    return true;
            }
        }

        private boolean passHole(int row) {
            draft.what[row] = ground.holeNamed(in.name());
            return passNameOf(draft.what[row]);
        }

        private boolean passRock(int row) {
            draft.other[row] = ground.rockNamed(in.name());
            return passNameOf(draft.other[row]);
        }

        private boolean passFault(int row) {
            draft.what[row] = ground.faultNamed(in.name());
            return passNameOf(draft.what[row]);
        }

        private boolean passNameOf(int thing) {
            if (thing == NONE) {
                return in.refuseToken(in.nameFault());
            }
            in.goOn();
            return true;
        }

        private boolean passNumber(int row, int least, int most) {
            draft.number[row] = in.value();
            return in.passNumber(least, most);
        }

        private boolean passComparison(int row) {
            if (!in.isSign('<') && !in.isSign('>') && !in.isSign('=')) {
                return in.refuseToken(CANNOT_STAND);
            }
            draft.other[row] = in.value();
            in.goOn();
            return true;
        }
    }

    /** One way of living through the years. */
    private static final class Life {
        private static final int MOST_STEPS = 300;

        // How often a loop is still to be gone through.
        private final int[] left = new int[Years.MOST_ROWS];
        private boolean hasRun = false;
        private int steps = 0;
        private int missed = 0;
        private int laid = 0;
        private int worn = 0;
        private boolean isCutShort = false;
        private int chance = 0;

        void run(Years years, Ground ground, int seed) {
            hasRun = true;
            steps = 0;
            missed = 0;
            laid = 0;
            worn = 0;
            isCutShort = false;
            chance = seed;
            int row = 0;
            // Loops without a step in them are passed over, so turns stay near twice the steps.
            for (int turn = 0; turn < 1000000 && row < years.rows && !isCutShort; turn++) {
                if (years.kind[row] == END) {
                    row = behindEnd(years, row);
                } else if (steps >= MOST_STEPS) {
                    isCutShort = true;
                } else {
                    steps++;
                    row = behindStep(years, row, ground);
                }
            }
        }

        private int behindEnd(Years years, int row) {
            int opening = years.mate[row];
            if (years.kind[opening] == LOOP && left[opening] > 1) {
                left[opening]--;
                return opening + 1;
            }
            return row + 1;
        }

        private int behindStep(Years years, int row, Ground ground) {
            switch (years.kind[row]) {
                case LAY:
                    layDown(ground, years.what[row], years.other[row], years.number[row]);
                    return row + 1;
                case WEAR:
                    worn += ground.wearOff(years.what[row], years.number[row]);
                    return row + 1;
                case STORM:
                    storm(ground, years.number[row]);
                    return row + 1;
                case MOVE:
                    move(ground, years.what[row], years.number[row]);
                    return row + 1;
                case LOOP:
                    left[row] = years.number[row];
                    return years.mate[row] == row + 1 ? row + 2 : row + 1;
                case STOP:
                    return years.rows;
                default:
                    return holds(years, row, ground) ? row + 1 : years.mate[row] + 1;
            }
        }

        private void layDown(Ground ground, int hole, int rock, int thick) {
            if (ground.layOn(hole, rock, thick) == FINE) {
                laid += thick;
            } else {
                missed++;
            }
        }

        private void storm(Ground ground, int most) {
            for (int hole = 0; hole < ground.holes; hole++) {
                int much = nextDraw(most);
                if (much > 0) {
                    worn += ground.wearOff(hole, much);
                }
            }
        }

        private int nextDraw(int by) {
            chance = (chance * 2777 + 9551) % 65536;
            return by > 0 ? chance / 8 % by : 0;
        }

        private void move(Ground ground, int fault, int much) {
            if (ground.faultThrow[fault] + much > MOST_THROW) {
                missed++;
            } else {
                ground.faultThrow[fault] += much;
            }
        }

        private static boolean holds(Years years, int row, Ground ground) {
            int hole = years.what[row];
            switch (years.kind[row]) {
                case HAS:
                    return ground.hasRock(hole, years.other[row]);
                case TOP:
                    return ground.hasRockOnTop(hole, years.other[row]);
                default:
                    return compares(ground.allThick(hole), years.other[row], years.number[row]);
            }
        }

        private static boolean compares(int a, int sign, int b) {
            if (sign == '<') {
                return a < b;
            }
            return sign == '>' ? a > b : a == b;
        }
    }

    /** The layers of two holes, paired at the least cost. */
    private static final class Match {
        private static final int WIDE = MOST_LAYERS + 1;

        // What it costs to match all from a layer of the first and one of the second on.
        private final int[] cost = new int[WIDE * WIDE];
        private final int[] mate = new int[MOST_LAYERS];
        private int firstLayers = NONE;
        private int paired = 0;

        int workOut(Ground ground, int a, int b) {
            for (int i = ground.layers[a]; i >= 0; i--) {
                for (int j = ground.layers[b]; j >= 0; j--) {
                    cost[i * WIDE + j] = leastFrom(ground, a, i, b, j);
                }
            }
            trace(ground, a, b);
            return cost[0];
        }

        private int leastFrom(Ground ground, int a, int i, int b, int j) {
            boolean hasFirst = i < ground.layers[a];
            boolean hasSecond = j < ground.layers[b];
            if (!hasFirst && !hasSecond) {
                return 0;
            }
            int first = slot(a, i);
            int second = slot(b, j);
            int place = i * WIDE + j;
            int least = ABOVE_ALL;
            if (hasFirst && hasSecond) {
                least = pairCost(ground, first, second) + cost[place + WIDE + 1];
            }
            if (hasFirst) {
                least = Math.min(least, leftOutCost(ground, first) + cost[place + WIDE]);
            }
            if (hasSecond) {
                least = Math.min(least, leftOutCost(ground, second) + cost[place + 1]);
            }
            return least;
        }

        private static int pairCost(Ground ground, int first, int second) {
            return ground.costOfTwo(ground.rock[first], ground.rock[second])
                    + Math.abs(ground.thick[first] - ground.thick[second]);
        }

        private static int leftOutCost(Ground ground, int slot) {
            return ground.skipCost[ground.rock[slot]] + ground.thick[slot];
        }

        /** From the top down: a pair first, then leaving out the first, then the second. */
        private void trace(Ground ground, int a, int b) {
            firstLayers = ground.layers[a];
            paired = 0;
            int i = 0;
            int j = 0;
            for (int turn = 0; turn < 2 * MOST_LAYERS && i < firstLayers; turn++) {
                int place = i * WIDE + j;
                boolean hasSecond = j < ground.layers[b];
                if (hasSecond && cost[place]
                        == pairCost(ground, slot(a, i), slot(b, j)) + cost[place + WIDE + 1]) {
                    mate[i] = j;
                    paired++;
                    i++;
                    j++;
                } else if (!hasSecond || cost[place]
                        == leftOutCost(ground, slot(a, i)) + cost[place + WIDE]) {
                    mate[i] = NONE;
                    i++;
                } else {
                    j++;
                }
            }
        }

        int mateOf(int layer) {
            return layer >= 0 && layer < firstLayers ? mate[layer] : NONE;
        }
    }

    /** The tree of nearest holes and the beds that run along it; worked out anew when stale. */
    private static final class Beds {
        private final Match match = new Match();
        private boolean isStale = true;
        private int couples = 0;
        private final int[] first = new int[MOST_HOLES];
        private final int[] second = new int[MOST_HOLES];
        private final int[] square = new int[MOST_HOLES];
        private int cost = 0;
        private int many = 0;
        private final int[] joined = new int[MOST_HOLES];
        private final int[] group = new int[MOST_SLOTS];
        private final int[] bedAt = new int[MOST_SLOTS];
        private final int[] bedOfGroup = new int[MOST_SLOTS];
        private final int[] layerOfBed = new int[MOST_SLOTS * MOST_HOLES];
        private boolean isOrderStale = true;
        private boolean hasOrder = false;
        private final int[] inOrder = new int[MOST_SLOTS];
        private final boolean[] isOut = new boolean[MOST_SLOTS];

        void turnStale() {
            isStale = true;
        }

        void refresh(Ground ground) {
            if (!isStale) {
                return;
            }
            isStale = false;
            isOrderStale = true;
            growTree(ground);
            cost = 0;
            for (int i = 0; i < MOST_SLOTS; i++) {
                group[i] = i;
            }
            for (int k = 0; k < couples; k++) {
                cost += match.workOut(ground, first[k], second[k]);
                joinPairs(first[k], second[k]);
            }
            numberBeds(ground);
        }

        private void growTree(Ground ground) {
            couples = 0;
            for (int hole = 0; hole < ground.holes; hole++) {
                joined[hole] = hole;
            }
            for (int turn = 1; turn < ground.holes; turn++) {
                addNearest(ground);
            }
        }

        private void addNearest(Ground ground) {
            int best = ABOVE_ALL;
            for (int a = 0; a < ground.holes; a++) {
                for (int b = a + 1; b < ground.holes; b++) {
                    int apart = squareApart(ground, a, b);
                    if (joined[a] != joined[b] && apart < best) {
                        best = apart;
                        first[couples] = a;
                        second[couples] = b;
                    }
                }
            }
            square[couples] = best;
            relabel(joined, ground.holes, joined[second[couples]], joined[first[couples]]);
            couples++;
        }

        private static int squareApart(Ground ground, int a, int b) {
            int alongX = ground.x[a] - ground.x[b];
            int alongY = ground.y[a] - ground.y[b];
            return alongX * alongX + alongY * alongY;
        }

        private static void relabel(int[] labels, int many, int from, int to) {
            for (int i = 0; i < many; i++) {
                if (labels[i] == from) {
                    labels[i] = to;
                }
            }
        }

        private void joinPairs(int a, int b) {
            for (int layer = 0; layer < match.firstLayers; layer++) {
                int mate = match.mateOf(layer);
                if (mate != NONE) {
                    relabel(group, MOST_SLOTS, group[slot(b, mate)], group[slot(a, layer)]);
                }
            }
        }

        private void numberBeds(Ground ground) {
            many = 0;
            for (int i = 0; i < MOST_SLOTS; i++) {
                bedOfGroup[i] = NONE;
            }
            for (int i = 0; i < MOST_SLOTS * MOST_HOLES; i++) {
                layerOfBed[i] = NONE;
            }
            for (int hole = 0; hole < ground.holes; hole++) {
                for (int layer = 0; layer < ground.layers[hole]; layer++) {
                    int slot = slot(hole, layer);
                    if (bedOfGroup[group[slot]] == NONE) {
                        bedOfGroup[group[slot]] = many;
                        many++;
                    }
                    bedAt[slot] = bedOfGroup[group[slot]];
                    layerOfBed[bedAt[slot] * MOST_HOLES + hole] = layer;
                }
            }
        }

        int layerIn(int bed, int hole) {
            return layerOfBed[bed * MOST_HOLES + hole];
        }

        int setOfHoles(int bed) {
            int set = 0;
            for (int hole = 0; hole < MOST_HOLES; hole++) {
                if (layerIn(bed, hole) != NONE) {
                    set |= 1 << hole;
                }
            }
            return set;
        }

        boolean isHigher(int a, int b) {
            for (int hole = 0; hole < MOST_HOLES; hole++) {
                if (layerIn(a, hole) != NONE && layerIn(a, hole) < layerIn(b, hole)) {
                    return true;
                }
            }
            return false;
        }

        int widestBed() {
            int best = NONE;
            int bestHoles = 0;
            for (int bed = 0; bed < many; bed++) {
                int holes = Integer.bitCount(setOfHoles(bed));
                if (holes > bestHoles) {
                    best = bed;
                    bestHoles = holes;
                }
            }
            return best;
        }

        boolean isOrdered() {
            if (isOrderStale) {
                isOrderStale = false;
                hasOrder = putInOrder();
            }
            return hasOrder;
        }

        private boolean putInOrder() {
            for (int bed = 0; bed < many; bed++) {
                isOut[bed] = false;
            }
            for (int k = 0; k < many; k++) {
                int next = firstFree();
                if (next == NONE) {
                    return false;
                }
                inOrder[k] = next;
                isOut[next] = true;
            }
            return true;
        }

        private int firstFree() {
            for (int bed = 0; bed < many; bed++) {
                if (!isOut[bed] && isFree(bed)) {
                    return bed;
                }
            }
            return NONE;
        }

        private boolean isFree(int bed) {
            for (int other = 0; other < many; other++) {
                if (!isOut[other] && isHigher(other, bed)) {
                    return false;
                }
            }
            return true;
        }

        int inBoth(int a, int b) {
            int both = 0;
            for (int bed = 0; bed < many; bed++) {
                if (layerIn(bed, a) != NONE && layerIn(bed, b) != NONE) {
                    both++;
                }
            }
            return both;
        }

        int gapsIn(int hole) {
            int gaps = 0;
            for (int bed = 0; bed < many; bed++) {
                if (layerIn(bed, hole) == NONE && isBetween(bed, hole)) {
                    gaps++;
                }
            }
            return gaps;
        }

        private boolean isBetween(int bed, int hole) {
            boolean isBelowOne = false;
            boolean isAboveOne = false;
            for (int other = 0; other < many; other++) {
                if (layerIn(other, hole) != NONE) {
                    isBelowOne = isBelowOne || isHigher(other, bed);
                    isAboveOne = isAboveOne || isHigher(bed, other);
                }
            }
            return isBelowOne && isAboveOne;
        }
    }

    /** Logs against holes, and the latest picks. */
    private static final class Logs {
        private static final int NO_ROCK = -2;
        private static final int UNITS = MOST_PLACES + FARTHEST_SHIFT;

        private final int[] pickPlace = new int[MOST_PLACES];
        private int picked = 0;
        private final int[] unitRock = new int[UNITS];

        int pick(Tray tray, int many, int mark, int window) {
            picked = 0;
            for (int k = 1; k < many; k++) {
                if (isPick(tray, many, k, mark, window)) {
                    pickPlace[picked] = k;
                    picked++;
                }
            }
            return picked;
        }

        private static boolean isPick(Tray tray, int many, int k, int mark, int window) {
            long ahead = tray.numbers[k - 1];
            if (tray.numbers[k] < mark || ahead == NONE || ahead >= mark) {
                return false;
            }
            for (int i = k + 1; i < k + window && i < many; i++) {
                if (tray.numbers[i] != NONE && tray.numbers[i] < mark) {
                    return false;
                }
            }
            return true;
        }

        /** Lays out a hole's rocks unit by unit, as far as a log can be moved. */
        void unfold(Ground ground, int hole) {
            int unit = 0;
            for (int layer = 0; layer < ground.layers[hole]; layer++) {
                int foot = unit + ground.thick[slot(hole, layer)];
                for (; unit < foot && unit < UNITS; unit++) {
                    unitRock[unit] = ground.rock[slot(hole, layer)];
                }
            }
            for (; unit < UNITS; unit++) {
                unitRock[unit] = NO_ROCK;
            }
        }

        int draw(Tray tray, Ground ground, int hole) {
            unfold(ground, hole);
            int drawn = 0;
            while (drawn < tray.many && unitRock[drawn] != NO_ROCK) {
                tray.put(drawn, unitRock[drawn]);
                drawn++;
            }
            return drawn;
        }

        int alike(Tray tray, int many, int shift) {
            int alike = 0;
            for (int k = 0; k < many; k++) {
                int unit = k + shift;
                if (unit >= 0 && unit < UNITS && tray.numbers[k] == unitRock[unit]) {
                    alike++;
                }
            }
            return alike;
        }

        int bestShift(Tray tray, int many) {
            int best = 0;
            int bestAlike = alike(tray, many, 0);
            for (int far = 1; far <= FARTHEST_SHIFT; far++) {
                int up = alike(tray, many, -far);
                if (up > bestAlike) {
                    best = -far;
                    bestAlike = up;
                }
                int down = alike(tray, many, far);
                if (down > bestAlike) {
                    best = far;
                    bestAlike = down;
                }
            }
            return best;
        }
    }
}
