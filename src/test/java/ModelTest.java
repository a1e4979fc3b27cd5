import java.math.BigInteger;
import java.util.*;

/**
 * Made-up fields and years against a model of its own: matches by trying all, beds by walking along the tree,
 * fractions by great numbers, years by walking down a tree of steps.
 */
public final class ModelTest {
    private record Layer(int rock, int thick) {
    }

    private record Step(String kind, int what, int other, int number, char sign, List<Step> body) {
    }

    /** Ends a life early: by stop, or by the 300 steps. */
    private static final class Over extends RuntimeException {
        private static final long serialVersionUID = 1L;
    }

    private static final class Model {
        int[] skip;
        int[][] unlike;
        int[][] at;
        List<List<Layer>> holes = new ArrayList<>();
        int[][] triangles;
        int[][] lines;
        int[] throwing;

        Model copy() {
            Model copy = new Model();
            copy.skip = skip;
            copy.unlike = unlike;
            copy.at = at;
            for (List<Layer> hole : holes) {
                copy.holes.add(new ArrayList<>(hole));
            }
            copy.triangles = triangles;
            copy.lines = lines;
            copy.throwing = throwing.clone();
            return copy;
        }

        boolean right(int fault, int hole) {
            int[] l = lines[fault];
            return (long) (l[2] - l[0]) * (at[hole][1] - l[1]) < (long) (l[3] - l[1]) * (at[hole][0] - l[0]);
        }

        int thrown(int hole) {
            int sum = 0;
            for (int f = 0; f < lines.length; f++) {
                sum += right(f, hole) ? throwing[f] : 0;
            }
            return sum;
        }

        int depth(int hole, int layer) {
            return thrown(hole) + holes.get(hole).subList(0, layer).stream().mapToInt(Layer::thick).sum();
        }

        int all(int hole) {
            return holes.get(hole).stream().mapToInt(Layer::thick).sum();
        }

        boolean across(int triangle) {
            for (int f = 0; f < lines.length; f++) {
                Set<Boolean> sides = new HashSet<>();
                for (int hole : triangles[triangle]) {
                    sides.add(right(f, hole));
                }
                if (sides.size() > 1) {
                    return true;
                }
            }
            return false;
        }

        boolean lay(int hole, int rock, int thick) {
            List<Layer> layers = holes.get(hole);
            if (!layers.isEmpty() && layers.get(0).rock == rock) {
                if (layers.get(0).thick + thick > 999) {
                    return false;
                }
                layers.set(0, new Layer(rock, layers.get(0).thick + thick));
                return true;
            }
            if (layers.size() == 12) {
                return false;
            }
            layers.add(0, new Layer(rock, thick));
            return true;
        }

        int wear(int hole, int much) {
            List<Layer> layers = holes.get(hole);
            int worn = 0;
            while (worn < much && !layers.isEmpty()) {
                Layer top = layers.remove(0);
                if (top.thick > 1) {
                    layers.add(0, new Layer(top.rock, top.thick - 1));
                }
                worn++;
            }
            return worn;
        }

        /** The first of the least cost: of all ways, or, of very many layers, of what is left from each couple on. */
        int[] match(int a, int b) {
            best = Integer.MAX_VALUE;
            bestMates = null;
            if (holes.get(a).size() + holes.get(b).size() <= 12) {
                tryAll(holes.get(a), holes.get(b), 0, 0, 0, new int[holes.get(a).size()]);
                return bestMates;
            }
            Map<List<Integer>, List<Integer>> known = new HashMap<>();
            List<Integer> way = leastWay(holes.get(a), holes.get(b), 0, 0, known);
            best = way.get(0);
            return way.subList(1, way.size()).stream().mapToInt(i -> i).toArray();
        }

        int best;
        int[] bestMates;

        /** The cost from two layers on, then what those of the first are paired with. */
        private List<Integer> leastWay(List<Layer> a, List<Layer> b, int i, int j, Map<List<Integer>, List<Integer>> known) {
            if (i == a.size() && j == b.size()) {
                return List.of(0);
            }
            List<Integer> key = List.of(i, j);
            if (known.containsKey(key)) {
                return known.get(key);
            }
            List<List<Integer>> ways = new ArrayList<>();
            if (i < a.size() && j < b.size()) {
                int pair = unlike[a.get(i).rock][b.get(j).rock] + Math.abs(a.get(i).thick - b.get(j).thick);
                ways.add(longer(leastWay(a, b, i + 1, j + 1, known), pair, j));
            }
            if (i < a.size()) {
                ways.add(longer(leastWay(a, b, i + 1, j, known), skip[a.get(i).rock] + a.get(i).thick, -1));
            }
            if (j < b.size()) {
                ways.add(longer(leastWay(a, b, i, j + 1, known), skip[b.get(j).rock] + b.get(j).thick, -2));
            }
            List<Integer> least = ways.stream().min(Comparator.comparingInt(w -> w.get(0))).orElseThrow();
            known.put(key, least);
            return least;
        }

        private static List<Integer> longer(List<Integer> way, int cost, int mate) {
            List<Integer> longer = new ArrayList<>();
            longer.add(way.get(0) + cost);
            if (mate >= -1) {
                longer.add(mate);
            }
            longer.addAll(way.subList(1, way.size()));
            return longer;
        }

        private void tryAll(List<Layer> a, List<Layer> b, int i, int j, int cost, int[] mates) {
            if (cost >= best) {
                return;
            }
            if (i == a.size() && j == b.size()) {
                best = cost;
                bestMates = mates.clone();
                return;
            }
            if (i < a.size() && j < b.size()) {
                mates[i] = j;
                int pair = unlike[a.get(i).rock][b.get(j).rock] + Math.abs(a.get(i).thick - b.get(j).thick);
                tryAll(a, b, i + 1, j + 1, cost + pair, mates);
            }
            if (i < a.size()) {
                mates[i] = -1;
                tryAll(a, b, i + 1, j, cost + skip[a.get(i).rock] + a.get(i).thick, mates);
            }
            if (j < b.size()) {
                tryAll(a, b, i, j + 1, cost + skip[b.get(j).rock] + b.get(j).thick, mates);
            }
        }

        List<int[]> tree() {
            List<int[]> couples = new ArrayList<>();
            for (int a = 0; a < at.length; a++) {
                for (int b = a + 1; b < at.length; b++) {
                    int dx = at[a][0] - at[b][0];
                    int dy = at[a][1] - at[b][1];
                    couples.add(new int[] {a, b, dx * dx + dy * dy});
                }
            }
            couples.sort(Comparator.comparingInt(c -> c[2]));
            List<int[]> tree = new ArrayList<>();
            for (int[] couple : couples) {
                if (!joined(tree, couple[0], couple[1], new HashSet<>())) {
                    tree.add(couple);
                }
            }
            return tree;
        }

        private boolean joined(List<int[]> tree, int a, int b, Set<Integer> seen) {
            if (a == b) {
                return true;
            }
            seen.add(a);
            for (int[] c : tree) {
                int next = c[0] == a ? c[1] : c[1] == a ? c[0] : a;
                if (!seen.contains(next) && joined(tree, next, b, seen)) {
                    return true;
                }
            }
            return false;
        }

        int treeCost;

        /** The bed of each layer of each hole. */
        int[][] beds(List<int[]> tree) {
            treeCost = 0;
            Map<List<Integer>, List<List<Integer>>> next = new HashMap<>();
            for (int[] c : tree) {
                int[] mates = match(c[0], c[1]);
                treeCost += best;
                for (int i = 0; i < mates.length; i++) {
                    if (mates[i] >= 0) {
                        List<Integer> a = List.of(c[0], i);
                        List<Integer> b = List.of(c[1], mates[i]);
                        next.computeIfAbsent(a, k -> new ArrayList<>()).add(b);
                        next.computeIfAbsent(b, k -> new ArrayList<>()).add(a);
                    }
                }
            }
            int[][] beds = new int[at.length][];
            for (int hole = 0; hole < at.length; hole++) {
                beds[hole] = new int[holes.get(hole).size()];
                Arrays.fill(beds[hole], -1);
            }
            int many = 0;
            for (int hole = 0; hole < at.length; hole++) {
                for (int layer = 0; layer < beds[hole].length; layer++) {
                    if (beds[hole][layer] < 0) {
                        Deque<List<Integer>> open = new ArrayDeque<>(List.of(List.of(hole, layer)));
                        while (!open.isEmpty()) {
                            List<Integer> one = open.pop();
                            if (beds[one.get(0)][one.get(1)] < 0) {
                                beds[one.get(0)][one.get(1)] = many;
                                open.addAll(next.getOrDefault(one, List.of()));
                            }
                        }
                        many++;
                    }
                }
            }
            return beds;
        }
    }

    private static Random random;

    public static void main(String[] args) {
        for (int run = 0; run < 400; run++) {
            random = new Random(1000 + run);
            Model model = someModel();
            BoreDesk[] desk = {Desk.with(text(model))};
            compare(desk, model);
            compareLogs(desk, model);
            for (int i = random.nextInt(60); i > 0; i--) {
                change(desk, model);
            }
            compare(desk, model);
            compareYears(model);
            if (run % 4 == 0) {
                compareMarks(model);
            }
        }
        Desk.end();
    }

    private static Model someModel() {
        Model model = new Model();
        int rocks = 1 + random.nextInt(8);
        model.skip = random.ints(rocks, 0, random.nextBoolean() ? 4 : 100).toArray();
        model.unlike = new int[rocks][rocks];
        int most = random.nextBoolean() ? 5 : 100;
        for (int a = 0; a < rocks; a++) {
            for (int b = 0; b < a; b++) {
                model.unlike[a][b] = random.nextInt(3) == 0 ? 9 : random.nextInt(most);
                model.unlike[b][a] = model.unlike[a][b];
            }
        }
        int holes = random.nextInt(7);
        int far = random.nextBoolean() ? 6 : 1000;
        Set<List<Integer>> places = new LinkedHashSet<>();
        while (places.size() < holes) {
            places.add(List.of(random.nextInt(far), random.nextInt(far)));
        }
        model.at = places.stream().map(p -> new int[] {p.get(0), p.get(1)}).toArray(int[][]::new);
        int thick = random.nextBoolean() ? 4 : 99;
        for (int hole = 0; hole < holes; hole++) {
            List<Layer> layers = new ArrayList<>();
            for (int i = random.nextInt(7); i > 0; i--) {
                layers.add(new Layer(random.nextInt(rocks), 1 + random.nextInt(thick)));
            }
            model.holes.add(layers);
        }
        List<int[]> triangles = new ArrayList<>();
        for (int i = 0; i < 8 && holes >= 3; i++) {
            int[] t = random.ints(3, 0, holes).toArray();
            if (turn(model.at[t[0]], model.at[t[1]], model.at[t[2]]) != 0) {
                triangles.add(t);
            }
        }
        model.triangles = triangles.toArray(int[][]::new);
        model.lines = new int[random.nextInt(3)][];
        model.throwing = new int[model.lines.length];
        for (int f = 0; f < model.lines.length; f++) {
            model.lines[f] = new int[] {random.nextInt(far), random.nextInt(far), random.nextInt(far), random.nextInt(1000)};
            if (model.lines[f][0] == model.lines[f][2]) {
                model.lines[f][0] = model.lines[f][0] == 0 ? 1 : 0;
            }
            model.throwing[f] = random.nextInt(1000);
        }
        return model;
    }

    private static long turn(int[] a, int[] b, int[] c) {
        return (long) (b[0] - a[0]) * (c[1] - a[1]) - (long) (c[0] - a[0]) * (b[1] - a[1]);
    }

    private static String rock(int number) {
        return "r" + (char) ('a' + number);
    }

    private static String hole(int number) {
        return "h" + (char) ('a' + number);
    }

    private static String fault(int number) {
        return "f" + (char) ('a' + number);
    }

    private static String text(Model model) {
        StringBuilder text = new StringBuilder();
        for (int r = 0; r < model.skip.length; r++) {
            text.append("rock ").append(rock(r)).append(model.skip[r] == 5 ? "" : " skip " + model.skip[r]).append(';');
        }
        StringBuilder unlike = new StringBuilder();
        for (int a = 0; a < model.skip.length; a++) {
            for (int b = 0; b < a; b++) {
                String part = "unlike " + rock(b) + " " + rock(a) + " costs " + model.unlike[a][b] + ";";
                if (model.unlike[a][b] != 9 && unlike.length() < 150) {
                    unlike.append(part);
                } else {
                    model.unlike[a][b] = 9;
                    model.unlike[b][a] = 9;
                }
            }
        }
        text.append(unlike);
        for (int h = 0; h < model.at.length; h++) {
            List<Layer> layers = model.holes.get(h);
            text.append("hole " + hole(h) + " at " + model.at[h][0] + " " + model.at[h][1]);
            while (layers.size() * 20 > 120 - 25 || layers.size() > 8) {
                layers.remove(layers.size() - 1);
            }
            for (Layer layer : layers) {
                text.append(" bed " + rock(layer.rock) + " thick " + layer.thick);
            }
            text.append(';');
        }
        for (int f = 0; f < model.lines.length; f++) {
            int[] l = model.lines[f];
            text.append("fault " + fault(f) + " from " + l[0] + " " + l[1] + " to " + l[2] + " " + l[3]
                + " throws " + model.throwing[f] + ";");
        }
        List<int[]> kept = new ArrayList<>();
        for (int[] t : model.triangles) {
            String part = "triangle " + hole(t[0]) + " " + hole(t[1]) + " " + hole(t[2]) + ";";
            if (text.length() + part.length() <= 900) {
                text.append(part);
                kept.add(t);
            }
        }
        model.triangles = kept.toArray(int[][]::new);
        return text.toString();
    }

    /** More than 512 calls come to one desk here: what the later ones answer is not promised, but as due all the same. */
    private static void compare(BoreDesk[] desk, Model model) {
        BoreDesk x = desk[0];
        int holes = model.at.length;
        Desk.due("told 0", x.told(0), model.skip.length);
        Desk.due("told 1", x.told(1), holes);
        Desk.due("told 2", x.told(2), model.triangles.length);
        Desk.due("told 3", x.told(3), model.lines.length);
        for (int h = 0; h < holes; h++) {
            int[] due = {model.at[h][0], model.at[h][1], model.holes.get(h).size(), model.all(h), model.thrown(h)};
            for (int what = 0; what < 5; what++) {
                Desk.due("hole", x.hole(h, what), due[what]);
            }
            for (int i = 0; i < model.holes.get(h).size(); i++) {
                Desk.due("rock", x.layer(h, i, 0), model.holes.get(h).get(i).rock);
                Desk.due("thick", x.layer(h, i, 1), model.holes.get(h).get(i).thick);
                Desk.due("depth", x.layer(h, i, 2), model.depth(h, i));
            }
            for (int f = 0; f < model.lines.length; f++) {
                Desk.due("side", x.side(f, h), model.right(f, h) ? 1 : 0);
            }
        }
        compareMatches(x, model);
        List<int[]> tree = model.tree();
        for (int k = 0; k < tree.size(); k++) {
            for (int what = 0; what < 3; what++) {
                Desk.due("tree", x.tree(k, what), tree.get(k)[what]);
            }
        }
        int[][] beds = model.beds(tree);
        Desk.due("tree cost", x.treeCost(), model.treeCost);
        compareBeds(x, model, beds);
        compareSurfaces(x, model, beds);
    }

    private static void compareMatches(BoreDesk x, Model model) {
        for (int a = 0; a < model.at.length; a++) {
            for (int b = 0; b < model.at.length; b++) {
                if (a != b) {
                    int[] mates = model.match(a, b);
                    Desk.due("match", x.match(a, b), model.best);
                    int pairs = 0;
                    for (int i = 0; i < mates.length; i++) {
                        Desk.due("pairOf", x.pairOf(i), mates[i]);
                        pairs += mates[i] >= 0 ? 1 : 0;
                    }
                    Desk.due("pairs", x.pairs(), pairs);
                }
            }
        }
    }

    private static int layerOf(int[][] beds, int bed, int hole) {
        for (int i = 0; i < beds[hole].length; i++) {
            if (beds[hole][i] == bed) {
                return i;
            }
        }
        return -1;
    }

    private static boolean above(int[][] beds, int a, int b) {
        for (int hole = 0; hole < beds.length; hole++) {
            int upper = layerOf(beds, a, hole);
            int lower = layerOf(beds, b, hole);
            if (upper >= 0 && lower >= 0 && upper < lower) {
                return true;
            }
        }
        return false;
    }

    private static void compareBeds(BoreDesk x, Model model, int[][] beds) {
        int many = Arrays.stream(beds).flatMapToInt(Arrays::stream).max().orElse(-1) + 1;
        Desk.due("beds", x.beds(), many);
        int widest = -1;
        int most = 0;
        for (int bed = 0; bed < many; bed++) {
            int set = 0;
            int deepest = -1;
            int depth = -1;
            for (int h = 0; h < beds.length; h++) {
                int layer = layerOf(beds, bed, h);
                if (layer >= 0) {
                    set |= 1 << h;
                    Desk.due("bedOf", x.bedOf(h, layer), bed);
                    Desk.due("bed layer", x.bed(bed, h, 2), layer);
                    Desk.due("bed thick", x.bed(bed, h, 1), model.holes.get(h).get(layer).thick);
                    Desk.due("bed depth", x.bed(bed, h, 0), model.depth(h, layer));
                    if (model.depth(h, layer) > depth) {
                        depth = model.depth(h, layer);
                        deepest = h;
                    }
                }
            }
            Desk.due("holesOf", x.holesOf(bed), set);
            Desk.due("deepest", x.deepest(bed), deepest);
            if (Integer.bitCount(set) > most) {
                most = Integer.bitCount(set);
                widest = bed;
            }
            for (int b = 0; b < many; b++) {
                Desk.due("above", x.above(bed, b), above(beds, bed, b) ? 1 : 0);
            }
        }
        Desk.due("widest", x.widest(), widest);
        TreeSet<Integer> left = new TreeSet<>();
        for (int bed = 0; bed < many; bed++) {
            left.add(bed);
        }
        for (int k = 0; k < many; k++) {
            int next = left.stream().filter(b -> left.stream().noneMatch(o -> above(beds, o, b))).findFirst().orElse(-1);
            left.remove(next);
            Desk.due("order", x.order(k), next);
        }
        compareHolesByBeds(x, beds, many);
    }

    private static void compareHolesByBeds(BoreDesk x, int[][] beds, int many) {
        for (int h = 0; h < beds.length; h++) {
            int gaps = 0;
            for (int bed = 0; bed < many; bed++) {
                int b = bed;
                boolean below = Arrays.stream(beds[h]).anyMatch(o -> above(beds, o, b));
                boolean over = Arrays.stream(beds[h]).anyMatch(o -> above(beds, b, o));
                gaps += layerOf(beds, bed, h) < 0 && below && over ? 1 : 0;
            }
            Desk.due("gaps", x.gaps(h), gaps);
            for (int o = 0; o < beds.length; o++) {
                if (o != h) {
                    Set<Integer> both = new HashSet<>();
                    Arrays.stream(beds[h]).forEach(both::add);
                    Set<Integer> others = new HashSet<>();
                    Arrays.stream(beds[o]).forEach(others::add);
                    both.retainAll(others);
                    Desk.due("shared", x.shared(h, o), both.size());
                }
            }
        }
    }

    private static void fraction(String what, BoreDesk x, boolean answer, long top, long bottom) {
        BigInteger a = BigInteger.valueOf(top);
        BigInteger b = BigInteger.valueOf(bottom);
        BigInteger divisor = a.gcd(b).multiply(BigInteger.valueOf(b.signum()));
        Desk.due(x, what, answer, true, 0);
        Desk.due(what + " top", x.top(), a.divide(divisor).longValueExact());
        Desk.due(what + " bottom", x.bottom(), b.divide(divisor).longValueExact());
    }

    private static void compareSurfaces(BoreDesk x, Model model, int[][] beds) {
        int many = x.beds();
        for (int t = 0; t < model.triangles.length; t++) {
            int[] c = model.triangles[t];
            fraction("area", x, x.area(t), Math.abs(turn(model.at[c[0]], model.at[c[1]], model.at[c[2]])), 2);
            Desk.due("across", x.across(t), model.across(t) ? 1 : 0);
        }
        for (int bed = 0; bed < many; bed++) {
            long all = 0;
            for (int t = 0; t < model.triangles.length; t++) {
                int[] c = model.triangles[t];
                if (model.across(t)) {
                    Desk.due(x, "volume across", x.volume(bed, t), false, 7);
                    Desk.due(x, "tilt across", x.tilt(bed, t, 0), false, 7);
                    continue;
                }
                long[] thick = new long[3];
                long[] top = new long[3];
                boolean whole = corners(model, beds, bed, c, top, thick);
                long turn = turn(model.at[c[0]], model.at[c[1]], model.at[c[2]]);
                long volume = Math.abs(turn) * (thick[0] + thick[1] + thick[2]);
                all += volume;
                fraction("volume", x, x.volume(bed, t), volume, 6);
                if (whole) {
                    // The plane through three points, from its normal.
                    long[] u = {model.at[c[1]][0] - model.at[c[0]][0], model.at[c[1]][1] - model.at[c[0]][1], top[1] - top[0]};
                    long[] v = {model.at[c[2]][0] - model.at[c[0]][0], model.at[c[2]][1] - model.at[c[0]][1], top[2] - top[0]};
                    fraction("tilt x", x, x.tilt(bed, t, 0), -(u[1] * v[2] - u[2] * v[1]), u[0] * v[1] - u[1] * v[0]);
                    fraction("tilt y", x, x.tilt(bed, t, 1), -(u[2] * v[0] - u[0] * v[2]), u[0] * v[1] - u[1] * v[0]);
                } else {
                    Desk.due(x, "tilt of one that runs out", x.tilt(bed, t, 1), false, 7);
                }
            }
            fraction("volumeOf", x, x.volumeOf(bed), all, 6);
        }
        for (int i = 0; i < 20; i++) {
            int[] p = {random.nextInt(random.nextBoolean() ? 6 : 1000), random.nextInt(random.nextBoolean() ? 6 : 1000)};
            if (random.nextInt(4) == 0 && model.at.length > 0) {
                p = model.at[random.nextInt(model.at.length)];
            }
            comparePoint(x, model, beds, p, many);
        }
    }

    private static boolean corners(Model model, int[][] beds, int bed, int[] c, long[] top, long[] thick) {
        boolean whole = true;
        for (int k = 0; k < 3; k++) {
            int layer = layerOf(beds, bed, c[k]);
            whole &= layer >= 0;
            thick[k] = layer < 0 ? 0 : model.holes.get(c[k]).get(layer).thick;
            top[k] = layer < 0 ? 0 : model.depth(c[k], layer);
        }
        return whole;
    }

    private static void comparePoint(BoreDesk x, Model model, int[][] beds, int[] p, int many) {
        int found = -1;
        for (int t = model.triangles.length - 1; t >= 0; t--) {
            int[] c = model.triangles[t];
            long a = turn(model.at[c[0]], model.at[c[1]], p);
            long b = turn(model.at[c[1]], model.at[c[2]], p);
            long d = turn(model.at[c[2]], model.at[c[0]], p);
            if (!model.across(t) && (a >= 0 && b >= 0 && d >= 0 || a <= 0 && b <= 0 && d <= 0)) {
                found = t;
            }
        }
        Desk.due("triangleAt", x.triangleAt(p[0], p[1]), found);
        if (many == 0) {
            return;
        }
        int bed = random.nextInt(many);
        if (found < 0) {
            Desk.due(x, "topAt", x.topAt(bed, p[0], p[1]), false, 6);
            Desk.due(x, "thickAt", x.thickAt(bed, p[0], p[1]), false, 6);
            return;
        }
        int[] c = model.triangles[found];
        long[] thick = new long[3];
        long[] top = new long[3];
        boolean whole = corners(model, beds, bed, c, top, thick);
        long all = turn(model.at[c[0]], model.at[c[1]], model.at[c[2]]);
        long u = turn(model.at[c[0]], p, model.at[c[2]]);
        long v = turn(model.at[c[0]], model.at[c[1]], p);
        fraction("thickAt", x, x.thickAt(bed, p[0], p[1]), thick[0] * all + u * (thick[1] - thick[0]) + v * (thick[2] - thick[0]), all);
        if (whole) {
            fraction("topAt", x, x.topAt(bed, p[0], p[1]), top[0] * all + u * (top[1] - top[0]) + v * (top[2] - top[0]), all);
        } else {
            Desk.due(x, "topAt", x.topAt(bed, p[0], p[1]), false, 7);
        }
    }

    private static void compareLogs(BoreDesk[] desk, Model model) {
        BoreDesk x = desk[0];
        int many = 1 + random.nextInt(60);
        List<Integer> log = new ArrayList<>();
        x.tray(3, random.nextInt(4), many);
        for (int i = 0; i < many; i++) {
            boolean same = i > 0 && random.nextInt(3) > 0;
            log.add(same ? log.get(i - 1) : random.nextInt(model.skip.length + 1) - 1);
            x.write(3, i, log.get(i));
        }
        int likest = -1;
        int most = -1;
        for (int h = 0; h < model.at.length; h++) {
            List<Integer> units = new ArrayList<>();
            for (Layer layer : model.holes.get(h)) {
                units.addAll(Collections.nCopies(layer.thick, layer.rock));
            }
            int agrees = agrees(log, units, 0);
            Desk.due("agrees", x.agrees(3, many, h), agrees);
            if (agrees > most) {
                most = agrees;
                likest = h;
            }
            int best = 0;
            for (int by : shiftsFromTheNearest()) {
                best = agrees(log, units, by) > agrees(log, units, best) ? by : best;
            }
            Desk.due("shift", x.shift(3, many, h, 0), best);
            Desk.due("shift, places", x.shift(3, many, h, 1), agrees(log, units, best));
        }
        Desk.due("likest", x.likest(3, many), likest);
        int runs = 1;
        int filled = 0;
        for (int i = 1; i < many; i++) {
            runs += log.get(i).equals(log.get(i - 1)) ? 0 : 1;
        }
        comparePicks(x, log);
        for (int i = 1; i < many; i++) {
            if (log.get(i) == -1 && log.get(i - 1) != -1) {
                log.set(i, log.get(i - 1));
                filled++;
            }
        }
        Desk.due("runs", x.runs(3, many), runs);
        Desk.due("fill", x.fill(3, many), filled);
        for (int i = 0; i < many; i++) {
            Desk.due("filled", x.read(3, i), log.get(i));
        }
        desk[0] = Desk.with(text(model));
    }

    private static void comparePicks(BoreDesk x, List<Integer> log) {
        int mark = random.nextInt(5);
        int window = 1 + random.nextInt(9);
        List<Integer> places = new ArrayList<>();
        for (int k = 1; k < log.size(); k++) {
            boolean crosses = log.get(k) >= mark && log.get(k - 1) < mark && log.get(k - 1) != -1;
            List<Integer> next = log.subList(k + 1, Math.min(log.size(), k + window));
            if (crosses && next.stream().allMatch(v -> v == -1 || v >= mark)) {
                places.add(k);
            }
        }
        Desk.due("picks", x.picks(3, log.size(), mark, window), places.size());
        for (int k = 0; k < places.size(); k++) {
            Desk.due("pickAt", x.pickAt(k), places.get(k));
        }
    }

    private static List<Integer> shiftsFromTheNearest() {
        List<Integer> shifts = new ArrayList<>();
        for (int by = -20; by <= 20; by++) {
            shifts.add(by);
        }
        shifts.sort(Comparator.comparingInt((Integer by) -> Math.abs(by)).thenComparingInt(by -> by));
        return shifts;
    }

    private static int agrees(List<Integer> log, List<Integer> units, int by) {
        int agrees = 0;
        for (int k = 0; k < log.size(); k++) {
            if (k + by >= 0 && k + by < units.size() && units.get(k + by).equals(log.get(k))) {
                agrees++;
            }
        }
        return agrees;
    }

    private static void change(BoreDesk[] desk, Model model) {
        if (model.at.length == 0) {
            return;
        }
        int hole = random.nextInt(model.at.length);
        int much = 1 + random.nextInt(20);
        if (random.nextInt(3) == 0) {
            Desk.due("wear", desk[0].wear(hole, much), model.wear(hole, much));
        } else {
            int rock = random.nextInt(model.skip.length);
            boolean laid = model.lay(hole, rock, much);
            Desk.due("lay", desk[0].lay(hole, rock, much), laid ? model.holes.get(hole).size() : -1);
        }
    }

    // ---- years

    private static int steps;
    private static int missed;
    private static int laid;
    private static int worn;
    private static boolean left;
    private static int chance;

    /** Fields of their own with their years, marked, changed and taken back to. */
    private static void compareMarks(Model last) {
        BoreDesk[] desk = {new BoreDesk()};
        Deque<Model> marked = new ArrayDeque<>();
        Deque<List<Step>> years = new ArrayDeque<>();
        for (int i = 0; i < 3; i++) {
            Model model = someModel();
            Desk.field(desk[0], text(model));
            for (int k = 0; k < 8; k++) {
                change(desk, model);
            }
            List<Step> program = model.at.length == 0 ? List.of() : List.of(someStep(model, 2), someStep(model, 3));
            Desk.due("years to be marked", Desk.years(desk[0], written(program)), count(program));
            Desk.due("mark", desk[0].mark(), i + 1);
            marked.push(model);
            years.push(program);
            Model spoilt = model.copy();
            change(desk, spoilt);
            if (spoilt.at.length > 0) {
                desk[0].odds(0, 0, 0, 2);
                desk[0].live(random.nextInt(10000));
            }
        }
        Desk.field(desk[0], text(last));
        while (!marked.isEmpty()) {
            Model model = marked.pop();
            Desk.due("back", desk[0].back(), marked.size());
            compare(desk, model);
            int seed = random.nextInt(10000);
            live(model, years.pop(), seed);
            Desk.due("live as marked", desk[0].live(seed), steps);
            compare(desk, model);
        }
    }

    private static void compareYears(Model model) {
        if (model.at.length == 0) {
            return;
        }
        // A new desk, with what became of the other one as a text, as far as that goes.
        Model fresh = model.copy();
        for (List<Layer> hole : fresh.holes) {
            while (hole.size() > 4) {
                hole.remove(hole.size() - 1);
            }
            hole.replaceAll(l -> new Layer(l.rock, 1 + l.thick % 99));
        }
        BoreDesk x = Desk.with(text(fresh));
        List<Step> program = new ArrayList<>();
        String text = "";
        for (int tries = 0; tries < 20; tries++) {
            List<Step> more = new ArrayList<>(program);
            more.add(someStep(fresh, 0));
            String longer = written(more);
            if (longer.length() <= 300 && count(more) <= 30) {
                program = more;
                text = longer;
            }
        }
        Desk.due("years: " + text, Desk.years(x, text), count(program));
        int seed = random.nextInt(10000 - 10);
        int hole = random.nextInt(fresh.at.length);
        int rock = random.nextInt(fresh.skip.length);
        int many = 1 + random.nextInt(10);
        int having = 0;
        for (int i = 0; i < many; i++) {
            Model one = fresh.copy();
            live(one, program, seed + i);
            having += one.holes.get(hole).stream().anyMatch(l -> l.rock == rock) ? 1 : 0;
        }
        fraction("odds in " + text, x, x.odds(hole, rock, seed, many), having, many);
        for (int again = 0; again < 2; again++) {
            live(fresh, program, seed + again);
            Desk.due("live " + text, x.live(seed + again), steps);
            Desk.due("missed", x.lived(0), missed);
            Desk.due("laid", x.lived(1), laid);
            Desk.due("worn", x.lived(2), worn);
            Desk.due("left " + text, x.lived(3), left ? 1 : 0);
            for (int h = 0; h < fresh.at.length; h++) {
                Desk.due("layers behind it", x.hole(h, 2), fresh.holes.get(h).size());
                Desk.due("thrown behind it", x.hole(h, 4), fresh.thrown(h));
                for (int i = 0; i < fresh.holes.get(h).size(); i++) {
                    Desk.due("rock behind it", x.layer(h, i, 0), fresh.holes.get(h).get(i).rock);
                    Desk.due("thick behind it", x.layer(h, i, 1), fresh.holes.get(h).get(i).thick);
                }
            }
        }
    }

    private static Step someStep(Model model, int depth) {
        int hole = random.nextInt(model.at.length);
        int rock = random.nextInt(model.skip.length);
        int number = 1 + random.nextInt(99);
        int which = random.nextInt(depth < 3 ? 14 : 8);
        if (which < 3) {
            return new Step("lay", hole, rock, number, ' ', List.of());
        }
        if (which == 3) {
            return new Step("wear", hole, 0, number, ' ', List.of());
        }
        if (which == 4) {
            return new Step("storm", 0, 0, number, ' ', List.of());
        }
        if (which < 7) {
            return model.lines.length == 0 ? new Step("storm", 0, 0, 1, ' ', List.of())
                : new Step("move", random.nextInt(model.lines.length), 0, number, ' ', List.of());
        }
        if (which == 7) {
            return random.nextInt(6) == 0 ? new Step("stop", 0, 0, 0, ' ', List.of())
                : new Step("lay", hole, rock, number, ' ', List.of());
        }
        List<Step> body = new ArrayList<>();
        for (int i = random.nextInt(4); i > 0; i--) {
            body.add(someStep(model, depth + 1));
        }
        switch (which) {
            case 8: return new Step("deep", hole, 0, random.nextInt(200), "<>=".charAt(random.nextInt(3)), body);
            case 9: return new Step("has", hole, rock, 0, ' ', body);
            case 10: return new Step("top", hole, rock, 0, ' ', body);
            default: return new Step("loop", 0, 0, random.nextBoolean() ? number : 1 + number % 3, ' ', body);
        }
    }

    private static int count(List<Step> program) {
        return program.stream().mapToInt(s -> 1 + count(s.body)).sum();
    }

    private static String written(List<Step> program) {
        StringBuilder text = new StringBuilder();
        for (Step s : program) {
            switch (s.kind) {
                case "lay": text.append("lay " + hole(s.what) + " " + rock(s.other) + " " + s.number); break;
                case "wear": text.append("wear " + hole(s.what) + " " + s.number); break;
                case "move": text.append("move " + fault(s.what) + " " + s.number); break;
                case "deep": text.append("when deep " + hole(s.what) + s.sign + s.number); break;
                case "has": case "top": text.append("when " + s.kind + " " + hole(s.what) + " " + rock(s.other)); break;
                case "stop": text.append("stop"); break;
                default: text.append(s.kind + " " + s.number); break;
            }
            text.append(';');
            if (List.of("deep", "has", "top", "loop").contains(s.kind)) {
                text.append(written(s.body)).append("end;");
            }
        }
        return text.toString();
    }

    private static void live(Model model, List<Step> program, int seed) {
        steps = 0;
        missed = 0;
        laid = 0;
        worn = 0;
        left = false;
        chance = seed;
        try {
            go(model, program);
        } catch (Over over) {
            // What it came to stays.
        }
    }

    private static void go(Model model, List<Step> program) {
        for (Step s : program) {
            if (steps == 300) {
                left = true;
                throw new Over();
            }
            steps++;
            boolean holds = false;
            switch (s.kind) {
                case "lay":
                    if (model.lay(s.what, s.other, s.number)) {
                        laid += s.number;
                    } else {
                        missed++;
                    }
                    break;
                case "wear":
                    worn += model.wear(s.what, s.number);
                    break;
                case "storm":
                    for (int h = 0; h < model.at.length; h++) {
                        chance = (chance * 2777 + 9551) & 65535;
                        worn += model.wear(h, (chance >> 3) % s.number);
                    }
                    break;
                case "move":
                    if (model.throwing[s.what] + s.number <= 999) {
                        model.throwing[s.what] += s.number;
                    } else {
                        missed++;
                    }
                    break;
                case "stop":
                    throw new Over();
                case "loop":
                    for (int i = 0; i < s.number; i++) {
                        go(model, s.body);
                    }
                    break;
                case "deep":
                    int all = model.all(s.what);
                    holds = s.sign == '<' ? all < s.number : s.sign == '>' ? all > s.number : all == s.number;
                    break;
                case "has":
                    holds = model.holes.get(s.what).stream().anyMatch(l -> l.rock == s.other);
                    break;
                default:
                    holds = !model.holes.get(s.what).isEmpty() && model.holes.get(s.what).get(0).rock == s.other;
                    break;
            }
            if (holds) {
                go(model, s.body);
            }
        }
    }
}
