import java.util.ArrayList;
import java.util.Arrays;
import java.util.HashSet;
import java.util.List;
import java.util.Random;
import java.util.Set;

/**
 * Long runs of calls, each answer set against a second program that goes by the document's words alone: it lists all
 * ORDERS, counts BREAKS window by window, and moves CARS through the LANE move by move.
 */
public final class OracleTest {
    private static final int UNKNOWN = -1, OUTSIDE = -2, STATE = -3, FULL = -4, NONE = -6, FAULT = -7;
    private static final String[] CALLS = {
        "option", "options", "demand", "told", "of", "fits", "least", "clash", "orders", "at", "rule", "near", "say",
        "wipe", "row", "filled", "lane", "image", "restore", "count"};

    private static int wrong = 0;
    private static long asked = 0;

    public static void main(String[] args) {
        for (int seed = 0; seed < 400; seed++) {
            randomRun(seed, 512);
        }
        for (int seed = 0; seed < 500; seed++) {
            everythingOf(seed);
        }
        for (int seed = 0; seed < 300; seed++) {
            lanesOf(seed);
        }
        shortRows();
        System.out.println(asked + " answers, " + wrong + " of them not as due");
        if (wrong != 0) {
            System.exit(1);
        }
    }

    /** Any calls, in any order, some to be refused. */
    private static void randomRun(int seed, int calls) {
        Random random = new Random(seed);
        Pair pair = new Pair("random run " + seed);
        boolean easy = random.nextBoolean();
        for (int n = 0; n < calls; n++) {
            String call = CALLS[random.nextInt(CALLS.length)];
            int a = random.nextInt(13) - 3;
            int b = random.nextInt(8) - 1;
            int c = random.nextInt(8) - 1;
            switch (call) {
                case "option":
                    a = random.nextInt(6) - 1;
                    if (easy && c > 0 && b < c - 1) {
                        b = c - 1;
                    }
                    break;
                case "options":
                    a = random.nextInt(7) - 1;
                    b = random.nextInt(18) - 1;
                    break;
                case "demand":
                    a = random.nextInt(7) - 1;
                    b = random.nextInt(10) < 8 ? random.nextInt(4) : random.nextInt(13) - 1;
                    break;
                case "told":
                case "of":
                    a = random.nextInt(7) - 1;
                    break;
                case "say":
                    a = random.nextInt(8) == 0 ? 63 : 46 + random.nextInt(8);
                    break;
                case "wipe":
                    if (random.nextInt(3) != 0) {
                        call = "say";
                        a = 48 + random.nextInt(5);
                    }
                    break;
                case "lane":
                case "image":
                case "restore":
                case "orders":
                case "row":
                    a = random.nextInt(5) - 1;
                    break;
                default:
                    break;
            }
            pair.both(call, a, b, c);
        }
    }

    /** Options and classes at random, and then all that can be asked, with some pads. */
    private static void everythingOf(int seed) {
        Random random = new Random(7000 + seed);
        Pair pair = new Pair("everything of " + seed);
        for (int option = 0; option < 4; option++) {
            int of = 1 + random.nextInt(5);
            int may = random.nextBoolean() ? Math.max(1, of - 1) : 1 + random.nextInt(of);
            pair.both("option", option, may, of);
        }
        int cars = random.nextInt(10);
        int[] demands = new int[5];
        int classes = 1 + random.nextInt(5);
        for (int car = 0; car < cars; car++) {
            demands[random.nextInt(classes)]++;
        }
        for (int cls = 0; cls < 5; cls++) {
            int set = random.nextInt(16) & (random.nextBoolean() ? random.nextInt(16) : 15);
            pair.both("options", cls, set, 0);
            pair.both("demand", cls, demands[cls], 0);
        }
        askAll(pair);
        int[] first = cars == 0 ? new int[0] : new int[cars];
        for (int place = 0; place < cars; place++) {
            int cls = pair.java.fits(place);
            first[place] = cls >= 0 ? cls : pair.java.rule(place);
        }
        for (int pads = 0; pads < 6; pads++) {
            pair.both("wipe", 0, 0, 0);
            shuffleSome(first, random, pads);
            for (int place = 0; place < cars; place++) {
                boolean any = pads >= 3 && random.nextInt(pads) != 0;
                pair.both("say", any ? 63 : 48 + first[place], 0, 0);
            }
            askPad(pair);
        }
    }

    /** Rows that a lane can mend, most of them no ORDER. */
    private static void lanesOf(int seed) {
        Random random = new Random(90000 + seed);
        Pair pair = new Pair("lanes of " + seed);
        for (int option = 0; option < 4; option++) {
            int of = 2 + random.nextInt(4);
            pair.both("option", option, 1 + random.nextInt(of - 1), of);
        }
        for (int cls = 0; cls < 5; cls++) {
            pair.both("options", cls, random.nextInt(16) & random.nextInt(16), 0);
        }
        int cars = random.nextInt(10);
        for (int place = 0; place < cars; place++) {
            pair.both("say", 48 + random.nextInt(5), 0, 0);
            if (place >= 6) {
                askPad(pair);
            }
        }
    }

    /** All that two options and up to four cars of two classes can be: some rows shorter than one OF, not the other. */
    private static void shortRows() {
        for (int firstOf = 1; firstOf <= 5; firstOf++) {
            for (int firstMay = 1; firstMay <= firstOf; firstMay++) {
                for (int secondOf = 1; secondOf <= 5; secondOf++) {
                    for (int secondMay = 1; secondMay <= secondOf; secondMay++) {
                        shortRows(firstMay, firstOf, secondMay, secondOf);
                    }
                }
            }
        }
    }

    private static void shortRows(int firstMay, int firstOf, int secondMay, int secondOf) {
        for (int sets = 0; sets < 16; sets++) {
            Pair pair = new Pair("short rows");
            pair.both("option", 0, firstMay, firstOf);
            pair.both("option", 3, secondMay, secondOf);
            pair.both("options", 1, setOfFirstAndLast(sets & 3), 0);
            pair.both("options", 4, setOfFirstAndLast(sets >> 2), 0);
            for (int cars = 1; cars <= 4; cars++) {
                for (int ofFirst = 0; ofFirst <= cars; ofFirst++) {
                    pair.both("demand", 1, 0, 0);
                    pair.both("demand", 4, cars - ofFirst, 0);
                    pair.both("demand", 1, ofFirst, 0);
                    askWhole(pair);
                }
            }
        }
    }

    private static int setOfFirstAndLast(int two) {
        return two & 1 | (two & 2) << 2;
    }

    private static void askWhole(Pair pair) {
        for (String call : new String[] {"fits", "least", "rule", "near"}) {
            pair.both(call, -1, 0, 0);
            pair.both(call, 1, 0, 0);
        }
        pair.both("at", 0, 0, 0);
        pair.both("orders", 1, 0, 0);
        pair.both("orders", 2, 0, 0);
        pair.both("clash", 0, 0, 0);
    }

    private static void shuffleSome(int[] row, Random random, int swaps) {
        for (int n = 0; n < swaps && row.length > 0; n++) {
            int i = random.nextInt(row.length);
            int j = random.nextInt(row.length);
            int cls = row[i];
            row[i] = row[j];
            row[j] = cls;
        }
    }

    private static void askAll(Pair pair) {
        for (int i = -2; i <= 10; i++) {
            for (String call : new String[] {"fits", "least", "at", "rule", "near", "orders", "count"}) {
                pair.both(call, i, 0, 0);
            }
        }
        for (int a = -1; a <= 5; a++) {
            for (int b = -1; b <= 4; b++) {
                pair.both("told", a, b, 0);
                pair.both("of", a, b, 0);
            }
        }
        pair.both("clash", 0, 0, 0);
        askPad(pair);
    }

    private static void askPad(Pair pair) {
        for (int i = -2; i <= 10; i++) {
            pair.both("filled", i, 0, 0);
            pair.both("row", i, 0, 0);
            pair.both("lane", i, 0, 0);
        }
        pair.both("count", 2, 0, 0);
        pair.both("count", 3, 0, 0);
    }

    /** The class and the second program, to which the same calls are made. */
    private static final class Pair {
        final String name;
        final CarOrders java = new CarOrders();
        final Model model = new Model();
        int calls = 0;

        Pair(String name) {
            this.name = name;
        }

        void both(String call, int a, int b, int c) {
            calls++;
            asked++;
            int got = answer(call, a, b, c);
            int due = model.answer(call, a, b, c);
            if (got != due) {
                wrong++;
                if (wrong < 50) {
                    System.out.println(name + ", call " + calls + ": " + call + "(" + a + ", " + b + ", " + c
                        + ") answered " + got + ", due is " + due + "; " + model.text());
                }
            }
        }

        private int answer(String call, int a, int b, int c) {
            switch (call) {
                case "option": return java.option(a, b, c);
                case "options": return java.options(a, b);
                case "demand": return java.demand(a, b);
                case "told": return java.told(a, b);
                case "of": return java.of(a, b);
                case "fits": return java.fits(a);
                case "least": return java.least(a);
                case "clash": return java.clash();
                case "orders": return java.orders(a);
                case "at": return java.at(a);
                case "rule": return java.rule(a);
                case "near": return java.near(a);
                case "say": return java.say(a);
                case "wipe": return java.wipe();
                case "row": return java.row(a);
                case "filled": return java.filled(a);
                case "lane": return java.lane(a);
                case "image": return java.image(a);
                case "restore": return java.restore(a);
                case "count": return java.count(a);
                default: throw new IllegalArgumentException(call);
            }
        }
    }

    /** The second program. */
    private static final class Model {
        int[] may = {1, 1, 1, 1};
        int[] of = {2, 2, 2, 2};
        int[] set = new int[5];
        int[] demand = new int[5];
        String pad = "";
        final int[][][] images = new int[2][][];
        Facts facts = null;
        String factsText = "";

        String text() {
            return "may " + Arrays.toString(may) + " of " + Arrays.toString(of) + " sets " + Arrays.toString(set)
                + " demands " + Arrays.toString(demand) + " pad " + pad;
        }

        int answer(String call, int a, int b, int c) {
            switch (call) {
                case "option": return option(a, b, c);
                case "options": return options(a, b);
                case "demand": return demand(a, b);
                case "told": return a < 0 || a > 4 ? UNKNOWN : b == 0 ? set[a] : b == 1 ? demand[a] : OUTSIDE;
                case "of": return of(a, b);
                case "clash": return clash();
                case "say": return say(a);
                case "wipe": return wipe();
                case "row": return row(a);
                case "lane": return lane(a);
                case "image": return image(a);
                case "restore": return restore(a);
                case "count": return count(a);
                case "filled": return a < -1 ? OUTSIDE : countOrPlace(filled(), a);
                case "fits": return a < -1 ? OUTSIDE : countOrPlace(facts().fits, a);
                case "orders": return orders(a);
                case "least": return a < -1 ? OUTSIDE : a == -1 ? facts().least : place(facts().firstLeast, a);
                case "at": return at(a);
                case "rule": return rule(a);
                case "near": return near(a);
                default: throw new IllegalArgumentException(call);
            }
        }

        int option(int o, int m, int n) {
            if (o < 0 || o > 3) return UNKNOWN;
            if (n < 1 || n > 5 || m < 1 || m > n) return OUTSIDE;
            int before = may[o] * 10 + of[o];
            may[o] = m;
            of[o] = n;
            return before;
        }

        int options(int cls, int s) {
            if (cls < 0 || cls > 4) return UNKNOWN;
            if (s < 0 || s > 15) return OUTSIDE;
            int before = set[cls];
            set[cls] = s;
            return before;
        }

        int demand(int cls, int n) {
            if (cls < 0 || cls > 4) return UNKNOWN;
            if (n < 0 || n > 9) return OUTSIDE;
            int before = demand[cls];
            demand[cls] = n;
            if (cars() > 9) {
                demand[cls] = before;
                return FULL;
            }
            return cars();
        }

        int of(int o, int what) {
            if (o < 0 || o > 3) return UNKNOWN;
            if (what < 0 || what > 3) return OUTSIDE;
            return what == 0 ? may[o] : what == 1 ? of[o] : what == 2 ? wanted(o) : room(o);
        }

        int clash() {
            int s = 0;
            for (int o = 0; o < 4; o++) {
                if (wanted(o) > room(o)) s += 1 << o;
            }
            return s;
        }

        int wanted(int o) {
            int sum = 0;
            for (int cls = 0; cls < 5; cls++) {
                if (has(cls, o)) sum += demand[cls];
            }
            return sum;
        }

        /** Counted CAR by CAR: of each OF CARS the first MAY have the OPTION. */
        int room(int o) {
            int sum = 0;
            for (int car = 0; car < cars(); car++) {
                if (car % of[o] < may[o]) sum++;
            }
            return sum;
        }

        int say(int sign) {
            if (sign < 0 || sign > 127 || "01234?".indexOf((char) sign) < 0) return OUTSIDE;
            if (pad.length() == 9) return FULL;
            pad += (char) sign;
            return pad.length();
        }

        int wipe() {
            int before = pad.length();
            pad = "";
            return before;
        }

        int row(int what) {
            if (what < 0 || what > 2) return OUTSIDE;
            if (pad.contains("?")) return FAULT;
            int[] row = padRow();
            if (what == 0) return breaks(row);
            if (what == 2) return isOrder(row) ? off(row) : NONE;
            for (int p = 0; p < row.length; p++) {
                if (breaksEndingAt(row, p) > 0) return p;
            }
            return NONE;
        }

        int lane(int k) {
            if (k < 0 || k > 2) return OUTSIDE;
            if (pad.contains("?")) return FAULT;
            int least = Integer.MAX_VALUE;
            Set<String> out = new HashSet<>();
            move(pad, "", "", k, new HashSet<>(), out);
            for (String gone : out) {
                least = Math.min(least, breaks(rowOf(gone)));
            }
            return least;
        }

        void move(String coming, String inLane, String gone, int k, Set<String> seen, Set<String> out) {
            if (!seen.add(coming + "/" + inLane + "/" + gone)) return;
            if (coming.isEmpty() && inLane.isEmpty()) {
                out.add(gone);
                return;
            }
            if (!coming.isEmpty()) {
                move(coming.substring(1), inLane, gone + coming.charAt(0), k, seen, out);
                if (inLane.length() < k) {
                    move(coming.substring(1), inLane + coming.charAt(0), gone, k, seen, out);
                }
            }
            for (int j = 0; j < inLane.length(); j++) {
                move(coming, inLane.substring(0, j) + inLane.substring(j + 1), gone + inLane.charAt(j), k, seen, out);
            }
        }

        int image(int k) {
            if (k != 0 && k != 1) return OUTSIDE;
            images[k] = new int[][] {may.clone(), of.clone(), set.clone(), demand.clone()};
            return 1;
        }

        int restore(int k) {
            if (k != 0 && k != 1) return OUTSIDE;
            if (images[k] == null) return STATE;
            may = images[k][0].clone();
            of = images[k][1].clone();
            set = images[k][2].clone();
            demand = images[k][3].clone();
            return 1;
        }

        int count(int what) {
            if (what == 0) return cars();
            if (what == 1) return (int) Arrays.stream(demand).filter(d -> d > 0).count();
            if (what == 2) return pad.length();
            if (what == 3) return !pad.contains("?") && isOrder(padRow()) ? 1 : 0;
            if (what == 4) return (images[0] == null ? 0 : 1) + (images[1] == null ? 0 : 2);
            return OUTSIDE;
        }

        int orders(int what) {
            if (what < 0 || what > 2) return OUTSIDE;
            return what == 0 ? facts().all.size() : what == 1 ? facts().most : facts().withLeast;
        }

        int at(int i) {
            if (i < 0 || i >= cars() || facts().fits.isEmpty()) return NONE;
            int classes = 0;
            for (int[] order : facts().fits) {
                classes |= 1 << order[i];
            }
            return classes;
        }

        int rule(int i) {
            if (i < -1) return OUTSIDE;
            int[] row = new int[0];
            while (row.length < cars()) {
                row = with(row, ruleTakes(row));
            }
            return i == -1 ? breaks(row) : place(row, i);
        }

        int near(int i) {
            if (i < -1) return OUTSIDE;
            if (facts().fits.isEmpty()) return NONE;
            return i == -1 ? facts().near : place(facts().firstNear, i);
        }

        List<int[]> filled() {
            List<int[]> list = new ArrayList<>();
            for (int[] order : facts().fits) {
                if (order.length == pad.length()) {
                    boolean good = true;
                    for (int p = 0; p < order.length; p++) {
                        good &= pad.charAt(p) == '?' || pad.charAt(p) - '0' == order[p];
                    }
                    if (good) list.add(order);
                }
            }
            return list;
        }

        static int countOrPlace(List<int[]> list, int i) {
            return i == -1 ? list.size() : list.isEmpty() ? NONE : place(list.get(0), i);
        }

        static int place(int[] row, int i) {
            return i < row.length ? row[i] : NONE;
        }

        int cars() {
            return Arrays.stream(demand).sum();
        }

        boolean has(int cls, int o) {
            return (set[cls] & 1 << o) != 0;
        }

        int[] padRow() {
            return rowOf(pad);
        }

        static int[] rowOf(String signs) {
            return signs.chars().map(sign -> sign - '0').toArray();
        }

        static int[] with(int[] row, int cls) {
            int[] longer = Arrays.copyOf(row, row.length + 1);
            longer[row.length] = cls;
            return longer;
        }

        int left(int[] row, int cls) {
            int left = demand[cls];
            for (int c : row) {
                if (c == cls) left--;
            }
            return left;
        }

        boolean isOrder(int[] row) {
            for (int cls = 0; cls < 5; cls++) {
                if (left(row, cls) != 0) return false;
            }
            return true;
        }

        int breaksEndingAt(int[] row, int p) {
            int breaks = 0;
            for (int o = 0; o < 4; o++) {
                if (p + 1 >= of[o]) {
                    int having = 0;
                    for (int q = p - of[o] + 1; q <= p; q++) {
                        if (has(row[q], o)) having++;
                    }
                    if (having > may[o]) breaks++;
                }
            }
            return breaks;
        }

        int breaks(int[] row) {
            int breaks = 0;
            for (int p = 0; p < row.length; p++) {
                breaks += breaksEndingAt(row, p);
            }
            return breaks;
        }

        /** Each word of THE RULE narrows the CLASSES down. */
        int ruleTakes(int[] ahead) {
            List<Integer> classes = new ArrayList<>();
            for (int cls = 0; cls < 5; cls++) {
                if (left(ahead, cls) > 0) classes.add(cls);
            }
            classes = leastBy(classes, cls -> breaksEndingAt(with(ahead, cls), ahead.length));
            classes = leastBy(classes, cls -> -Integer.bitCount(set[cls]));
            classes = leastBy(classes, cls -> -left(ahead, cls));
            return classes.get(0);
        }

        static List<Integer> leastBy(List<Integer> classes, java.util.function.IntUnaryOperator weight) {
            int least = Integer.MAX_VALUE;
            List<Integer> best = new ArrayList<>();
            for (int cls : classes) {
                int w = weight.applyAsInt(cls);
                if (w < least) {
                    least = w;
                    best.clear();
                }
                if (w == least) best.add(cls);
            }
            return best;
        }

        int off(int[] order) {
            int off = 0;
            for (int p = 0; p < order.length; p++) {
                if (ruleTakes(Arrays.copyOf(order, p)) != order[p]) off++;
            }
            return off;
        }

        /** Kept while all that it depends on is the same. */
        Facts facts() {
            String now = Arrays.toString(may) + Arrays.toString(of) + Arrays.toString(set) + Arrays.toString(demand);
            if (facts == null || !now.equals(factsText)) {
                facts = new Facts(this);
                factsText = now;
            }
            return facts;
        }
    }

    /** All ORDERS, and what is told of them. */
    private static final class Facts {
        final List<int[]> all = new ArrayList<>();
        final List<int[]> fits = new ArrayList<>();
        int least = Integer.MAX_VALUE, withLeast, most, near = Integer.MAX_VALUE;
        int[] firstLeast, firstNear;

        Facts(Model model) {
            list(model, new int[0]);
            for (int[] order : all) {
                int breaks = model.breaks(order);
                most = Math.max(most, breaks);
                if (breaks < least) {
                    least = breaks;
                    withLeast = 0;
                    firstLeast = order;
                }
                if (breaks == least) withLeast++;
                if (breaks == 0) fits.add(order);
            }
            for (int[] order : fits) {
                int off = model.off(order);
                if (off < near) {
                    near = off;
                    firstNear = order;
                }
            }
        }

        private void list(Model model, int[] row) {
            if (row.length == model.cars()) {
                all.add(row);
                return;
            }
            for (int cls = 0; cls < 5; cls++) {
                if (model.left(row, cls) > 0) list(model, Model.with(row, cls));
            }
        }
    }
}
