/**
 * Cars in order on a line. The words in capitals are those of the document (../shared/DOC.md).
 *
 * <p>All rows are made with the object and used again, so that no call makes an object.
 */
public final class CarOrders {
    public static final int UNKNOWN = -1, OUTSIDE = -2, STATE = -3, FULL = -4, NONE = -6, FAULT = -7;

    private static final int OPTION_COUNT = 4;
    private static final int ALL_OPTIONS = 15;
    private static final int OF_LIMIT = 5;
    private static final int CLASS_COUNT = 5;
    private static final int CAR_LIMIT = 9;
    private static final int LANE_LIMIT = 2;
    private static final int IMAGE_COUNT = 2;

    /** Asked for in place of a place: the number that is told of the whole. */
    private static final int WHOLE = -1;

    private final Plan plan = new Plan();
    private final Pad pad = new Pad();
    private final Row walked = new Row(plan);
    private final Fitting fitting = new Fitting(plan, walked);
    private final Fewest fewest = new Fewest(plan, walked);
    private final Most most = new Most(plan, walked);
    private final Filling filling = new Filling(plan, walked, pad);
    private final Siding siding = new Siding(pad, walked);
    private final Plan firstImage = new Plan();
    private final Plan secondImage = new Plan();
    private int imagesKept = 0;

    public CarOrders() {
    }

    // ---- 1 options, classes

    public int option(int option, int may, int of) {
        if (!isOption(option)) {
            return UNKNOWN;
        }
        if (of < 1 || of > OF_LIMIT || may < 1 || may > of) {
            return OUTSIDE;
        }
        int before = 10 * plan.may[option] + plan.of[option];
        plan.setOption(option, may, of);
        forgetOrders();
        return before;
    }

    public int options(int cls, int set) {
        if (!isClass(cls)) {
            return UNKNOWN;
        }
        if (set < 0 || set > ALL_OPTIONS) {
            return OUTSIDE;
        }
        int before = plan.sets[cls];
        plan.sets[cls] = set;
        forgetOrders();
        return before;
    }

    public int demand(int cls, int n) {
        if (!isClass(cls)) {
            return UNKNOWN;
        }
        if (n < 0 || n > CAR_LIMIT) {
            return OUTSIDE;
        }
        int then = plan.cars() - plan.demands[cls] + n;
        if (then > CAR_LIMIT) {
            return FULL;
        }
        plan.demands[cls] = n;
        forgetOrders();
        return then;
    }

    public int told(int cls, int what) {
        if (!isClass(cls)) {
            return UNKNOWN;
        }
        switch (what) {
            case 0:
                return plan.sets[cls];
            case 1:
                return plan.demands[cls];
            default:
                return OUTSIDE;
        }
    }

    public int of(int option, int what) {
        if (!isOption(option)) {
            return UNKNOWN;
        }
        switch (what) {
            case 0:
                return plan.may[option];
            case 1:
                return plan.of[option];
            case 2:
                return plan.wanted(option);
            case 3:
                return plan.room(option);
            default:
                return OUTSIDE;
        }
    }

    // ---- 2 orders

    public int fits(int i) {
        if (i < WHOLE) {
            return OUTSIDE;
        }
        fitting.refresh();
        if (i == WHOLE) {
            return fitting.all;
        }
        return fitting.all == 0 ? NONE : classAt(fitting.first, i);
    }

    public int least(int i) {
        if (i < WHOLE) {
            return OUTSIDE;
        }
        fewest.refresh();
        return i == WHOLE ? fewest.least : classAt(fewest.first, i);
    }

    public int clash() {
        int set = 0;
        for (int option = 0; option < OPTION_COUNT; option++) {
            if (plan.wanted(option) > plan.room(option)) {
                set |= 1 << option;
            }
        }
        return set;
    }

    public int orders(int what) {
        switch (what) {
            case 0:
                return plan.orderCount();
            case 1:
                most.refresh();
                return most.most;
            case 2:
                fewest.refresh();
                return fewest.all;
            default:
                return OUTSIDE;
        }
    }

    public int at(int i) {
        fitting.refresh();
        return fitting.all == 0 ? NONE : classAt(fitting.sets, i);
    }

    // ---- 3 the rule

    public int rule(int i) {
        if (i < WHOLE) {
            return OUTSIDE;
        }
        walked.takeRule(plan.cars());
        return i == WHOLE ? walked.breaks() : classAt(walked.classes, i);
    }

    public int near(int i) {
        if (i < WHOLE) {
            return OUTSIDE;
        }
        fitting.refresh();
        if (fitting.all == 0) {
            return NONE;
        }
        return i == WHOLE ? fitting.near : classAt(fitting.firstNear, i);
    }

    // ---- 4 the pad, the lane

    public int say(int sign) {
        if ((sign < '0' || sign >= '0' + CLASS_COUNT) && sign != '?') {
            return OUTSIDE;
        }
        if (pad.length >= CAR_LIMIT) {
            return FULL;
        }
        pad.add(sign == '?' ? Pad.ANY : sign - '0');
        filling.forget();
        return pad.length;
    }

    public int wipe() {
        int before = pad.length;
        pad.length = 0;
        filling.forget();
        return before;
    }

    public int row(int what) {
        if (what < 0 || what > 2) {
            return OUTSIDE;
        }
        if (pad.hasAny()) {
            return FAULT;
        }
        int off = walkPad();
        switch (what) {
            case 0:
                return walked.breaks();
            case 1:
                return walked.firstBreak();
            default:
                return walked.isOrder() ? off : NONE;
        }
    }

    public int filled(int i) {
        if (i < WHOLE) {
            return OUTSIDE;
        }
        filling.refresh();
        if (i == WHOLE) {
            return filling.all;
        }
        return filling.all == 0 ? NONE : classAt(filling.first, i);
    }

    public int lane(int k) {
        if (k < 0 || k > LANE_LIMIT) {
            return OUTSIDE;
        }
        if (pad.hasAny()) {
            return FAULT;
        }
        return siding.putRight(k);
    }

    // ---- 5 images

    public int image(int k) {
        if (!isImage(k)) {
            return OUTSIDE;
        }
        imageOf(k).copyFrom(plan);
        imagesKept |= 1 << k;
        return 1;
    }

    public int restore(int k) {
        if (!isImage(k)) {
            return OUTSIDE;
        }
        if ((imagesKept >> k & 1) == 0) {
            return STATE;
        }
        plan.copyFrom(imageOf(k));
        forgetOrders();
        return 1;
    }

    public int count(int what) {
        switch (what) {
            case 0:
                return plan.cars();
            case 1:
                return plan.classesWithDemand();
            case 2:
                return pad.length;
            case 3:
                return padIsOrder() ? 1 : 0;
            case 4:
                return imagesKept;
            default:
                return OUTSIDE;
        }
    }

    private static boolean isOption(int option) {
        return option >= 0 && option < OPTION_COUNT;
    }

    private static boolean isClass(int cls) {
        return cls >= 0 && cls < CLASS_COUNT;
    }

    private static boolean isImage(int k) {
        return k >= 0 && k < IMAGE_COUNT;
    }

    private Plan imageOf(int k) {
        return k == 0 ? firstImage : secondImage;
    }

    /** What was found out of ORDERS no longer holds once OPTIONS, CLASSES or DEMANDS are others. */
    private void forgetOrders() {
        fitting.forget();
        fewest.forget();
        most.forget();
        filling.forget();
    }

    /** What a list with an entry for each place of an ORDER has at a place. */
    private int classAt(int[] places, int i) {
        return i >= 0 && i < plan.cars() && i < places.length ? places[i] : NONE;
    }

    /** Walks the ROW on THE PAD, which has no ?; answers its OFF, which means nothing if it is no ORDER. */
    private int walkPad() {
        int off = 0;
        walked.start();
        for (int place = 0; place < pad.length; place++) {
            int cls = pad.signAt(place);
            if (walked.ruleClass() != cls) {
                off++;
            }
            walked.put(cls);
        }
        return off;
    }

    private boolean padIsOrder() {
        if (pad.hasAny()) {
            return false;
        }
        walkPad();
        return walked.isOrder();
    }

    /** OPTIONS and CLASSES: all that an IMAGE keeps. */
    private static final class Plan {
        /** One bit of each of the last five CARS of a trail (see Row). */
        private static final int WIDEST_WINDOW = 0x11111;

        private final int[] may = new int[OPTION_COUNT];
        private final int[] of = new int[OPTION_COUNT];
        /** Those bits of a trail that tell an OPTION of the last OF CARS. */
        private final int[] windows = new int[OPTION_COUNT];
        private final int[] sets = new int[CLASS_COUNT];
        private final int[] demands = new int[CLASS_COUNT];

        Plan() {
            for (int option = 0; option < OPTION_COUNT; option++) {
                setOption(option, 1, 2);
            }
        }

        void setOption(int option, int newMay, int newOf) {
            may[option] = newMay;
            of[option] = newOf;
            windows[option] = WIDEST_WINDOW >> OPTION_COUNT * (OF_LIMIT - newOf) << option;
        }

        void copyFrom(Plan other) {
            System.arraycopy(other.may, 0, may, 0, OPTION_COUNT);
            System.arraycopy(other.of, 0, of, 0, OPTION_COUNT);
            System.arraycopy(other.windows, 0, windows, 0, OPTION_COUNT);
            System.arraycopy(other.sets, 0, sets, 0, CLASS_COUNT);
            System.arraycopy(other.demands, 0, demands, 0, CLASS_COUNT);
        }

        int cars() {
            int sum = 0;
            for (int cls = 0; cls < CLASS_COUNT; cls++) {
                sum += demands[cls];
            }
            return sum;
        }

        int classesWithDemand() {
            int classes = 0;
            for (int cls = 0; cls < CLASS_COUNT; cls++) {
                if (demands[cls] > 0) {
                    classes++;
                }
            }
            return classes;
        }

        int wanted(int option) {
            int sum = 0;
            for (int cls = 0; cls < CLASS_COUNT; cls++) {
                if ((sets[cls] >> option & 1) != 0) {
                    sum += demands[cls];
                }
            }
            return sum;
        }

        int room(int option) {
            int width = of[option];
            if (width < 1) {
                return 0;
            }
            int cars = cars();
            return may[option] * (cars / width) + Math.min(may[option], cars % width);
        }

        /** How many ORDERS there are: for CLASS after CLASS, in how many ways its CARS can stand among those so far. */
        int orderCount() {
            int ways = 1;
            int cars = 0;
            for (int cls = 0; cls < CLASS_COUNT; cls++) {
                for (int car = 1; car <= demands[cls]; car++) {
                    cars++;
                    ways = ways * cars / car;
                }
            }
            return ways;
        }

        /** No ORDER has more BREAKS whose last CAR stands behind the first so many. */
        int breaksBehind(int place, int cars) {
            int breaks = 0;
            for (int option = 0; option < OPTION_COUNT; option++) {
                if (wanted(option) > may[option]) {
                    breaks += Math.max(0, cars - Math.max(place, of[option] - 1));
                }
            }
            return breaks;
        }

        /** BREAKS whose last CAR is the last one of a ROW with this trail. */
        int breaksAtEnd(int trail, int length) {
            int breaks = 0;
            for (int option = 0; option < OPTION_COUNT; option++) {
                if (length >= of[option] && Integer.bitCount(trail & windows[option]) > may[option]) {
                    breaks++;
                }
            }
            return breaks;
        }
    }

    /** THE PAD. */
    private static final class Pad {
        /** What stands for a ? among the CLASSES. */
        private static final int ANY = -1;

        private final int[] signs = new int[CAR_LIMIT];
        private int length = 0;

        void add(int sign) {
            if (length < CAR_LIMIT) {
                signs[length] = sign;
                length++;
            }
        }

        int signAt(int place) {
            return place >= 0 && place < length ? signs[place] : ANY;
        }

        boolean hasAny() {
            for (int place = 0; place < length; place++) {
                if (signs[place] == ANY) {
                    return true;
                }
            }
            return false;
        }

        boolean allows(int place, int cls) {
            int sign = signAt(place);
            return sign == ANY || sign == cls;
        }
    }

    /**
     * A ROW to which CARS are put, and from which the last one is dropped again.
     *
     * <p>Its trail has the OPTIONS of its last CARS, four bits a CAR, the last CAR's lowest: with it BREAKS are counted
     * without going back along the ROW.
     */
    private static final class Row {
        private final Plan plan;
        private final int[] classes = new int[CAR_LIMIT];
        /** Of the first n CARS, at n. */
        private final int[] trails = new int[CAR_LIMIT + 1];
        /** Of the first n CARS, at n. */
        private final int[] breaks = new int[CAR_LIMIT + 1];
        /** DEMANDS, less the CARS in the ROW: below 0 if it has more. */
        private final int[] left = new int[CLASS_COUNT];
        private int length = 0;

        Row(Plan plan) {
            this.plan = plan;
        }

        void start() {
            length = 0;
            System.arraycopy(plan.demands, 0, left, 0, CLASS_COUNT);
        }

        void put(int cls) {
            if (!isClass(cls) || length >= CAR_LIMIT) {
                return;
            }
            int trail = trailWith(cls);
            int before = breaks[length];
            classes[length] = cls;
            left[cls]--;
            length++;
            trails[length] = trail;
            breaks[length] = before + plan.breaksAtEnd(trail, length);
        }

        void takeRule(int cars) {
            start();
            for (int place = 0; place < cars; place++) {
                put(ruleClass());
            }
        }

        void drop() {
            if (length > 0) {
                length--;
                left[classes[length]]++;
            }
        }

        int breaks() {
            return breaks[length];
        }

        /** The place of the last CAR of the first BREAK. */
        int firstBreak() {
            for (int place = 0; place < length; place++) {
                if (breaks[place + 1] > 0) {
                    return place;
                }
            }
            return NONE;
        }

        boolean isOrder() {
            for (int cls = 0; cls < CLASS_COUNT; cls++) {
                if (left[cls] != 0) {
                    return false;
                }
            }
            return true;
        }

        /** The CLASS that THE RULE takes next, NONE if no CAR is left. */
        int ruleClass() {
            int taken = NONE;
            int best = 0;
            for (int cls = 0; cls < CLASS_COUNT; cls++) {
                if (left[cls] > 0) {
                    int come = plan.breaksAtEnd(trailWith(cls), length + 1);
                    int lacking = OPTION_COUNT - Integer.bitCount(plan.sets[cls]);
                    // What THE RULE looks at later has a lower decimal place, so that it weighs less.
                    int rank = 100 * come + 10 * lacking + CAR_LIMIT - left[cls];
                    if (taken == NONE || rank < best) {
                        taken = cls;
                        best = rank;
                    }
                }
            }
            return taken;
        }

        private int trailWith(int cls) {
            return trails[length] << OPTION_COUNT | plan.sets[cls];
        }
    }

    /**
     * A walk through the ORDERS, the first one first, that leaves out those that begin in a way that can't matter. What
     * it found out is known till it is told to forget.
     */
    private abstract static class Walk {
        final Plan plan;
        final Row row;
        int cars = 0;
        private boolean known = false;

        Walk(Plan plan, Row row) {
            this.plan = plan;
            this.row = row;
        }

        void forget() {
            known = false;
        }

        void refresh() {
            if (known) {
                return;
            }
            cars = plan.cars();
            begin();
            row.start();
            goOn(0);
            known = true;
        }

        private void goOn(int place) {
            if (!matters(place)) {
                return;
            }
            if (place >= cars) {
                note();
                return;
            }
            for (int cls = 0; cls < CLASS_COUNT; cls++) {
                if (row.left[cls] > 0) {
                    row.put(cls);
                    goOn(place + 1);
                    row.drop();
                }
            }
        }

        void keepRow(int[] places) {
            System.arraycopy(row.classes, 0, places, 0, CAR_LIMIT);
        }

        abstract void begin();

        /** Whether an ORDER that begins with the CARS in the row, up to this place, can matter. */
        abstract boolean matters(int place);

        /** The row is an ORDER that matters. */
        abstract void note();
    }

    /** ORDERS that FIT. */
    private static final class Fitting extends Walk {
        private final int[] first = new int[CAR_LIMIT];
        private final int[] firstNear = new int[CAR_LIMIT];
        /** The CLASSES at each place. */
        private final int[] sets = new int[CAR_LIMIT];
        /** What THE RULE takes behind the first n CARS, at n. */
        private final int[] ruled = new int[CAR_LIMIT + 1];
        /** OFF of the first n CARS, at n. */
        private final int[] off = new int[CAR_LIMIT + 1];
        private int all = 0;
        private int near = 0;

        Fitting(Plan plan, Row row) {
            super(plan, row);
        }

        void begin() {
            all = 0;
            for (int place = 0; place < CAR_LIMIT; place++) {
                sets[place] = 0;
            }
        }

        boolean matters(int place) {
            if (row.breaks() > 0) {
                return false;
            }
            if (place > 0) {
                int more = row.classes[place - 1] == ruled[place - 1] ? 0 : 1;
                off[place] = off[place - 1] + more;
            }
            ruled[place] = row.ruleClass();
            return true;
        }

        void note() {
            if (all == 0) {
                keepRow(first);
            }
            if (all == 0 || off[cars] < near) {
                near = off[cars];
                keepRow(firstNear);
            }
            all++;
            for (int place = 0; place < cars; place++) {
                sets[place] |= 1 << row.classes[place];
            }
        }
    }

    /** ORDERS with LEAST. */
    private static final class Fewest extends Walk {
        private final int[] first = new int[CAR_LIMIT];
        private int least = 0;
        private int all = 0;

        Fewest(Plan plan, Row row) {
            super(plan, row);
        }

        void begin() {
            // LEAST is no more than what THE RULE comes to: so much can be left out from the start.
            row.takeRule(cars);
            least = row.breaks();
            all = 0;
        }

        boolean matters(int place) {
            return row.breaks() <= least;
        }

        void note() {
            if (all == 0 || row.breaks() < least) {
                least = row.breaks();
                all = 0;
                keepRow(first);
            }
            all++;
        }
    }

    /** The most BREAKS that any ORDER has. */
    private static final class Most extends Walk {
        private int most = 0;
        /** How many BREAKS could come behind the first n CARS, at n. */
        private final int[] toCome = new int[CAR_LIMIT + 1];

        Most(Plan plan, Row row) {
            super(plan, row);
        }

        void begin() {
            most = 0;
            for (int place = 0; place <= CAR_LIMIT; place++) {
                toCome[place] = plan.breaksBehind(place, cars);
            }
        }

        boolean matters(int place) {
            return row.breaks() + toCome[place] > most;
        }

        void note() {
            most = row.breaks();
        }
    }

    /** ORDERS that are FILLED. */
    private static final class Filling extends Walk {
        private final Pad pad;
        private final int[] first = new int[CAR_LIMIT];
        private int all = 0;

        Filling(Plan plan, Row row, Pad pad) {
            super(plan, row);
            this.pad = pad;
        }

        void begin() {
            all = 0;
        }

        boolean matters(int place) {
            if (pad.length != cars || row.breaks() > 0) {
                return false;
            }
            return place == 0 || pad.allows(place - 1, row.classes[place - 1]);
        }

        void note() {
            if (all == 0) {
                keepRow(first);
            }
            all++;
        }
    }

    /**
     * The LANE beside THE LINE.
     *
     * <p>The CARS in the LANE have always come ahead of those that are yet to come, and a CAR can go on if all that came
     * ahead of it and have not gone on are in the LANE. So with k places the next CAR that goes on is any one of the
     * first k + 1 that have not.
     */
    private static final class Siding {
        private final Pad pad;
        private final Row row;
        private int best = 0;

        Siding(Pad pad, Row row) {
            this.pad = pad;
            this.row = row;
        }

        int putRight(int places) {
            row.start();
            for (int place = 0; place < pad.length; place++) {
                row.put(pad.signAt(place));
            }
            best = row.breaks();
            row.start();
            walk(0, 0, places);
            return best;
        }

        /** Gone: the set of the places on THE PAD whose CARS have gone on. */
        private void walk(int count, int gone, int places) {
            if (row.breaks() >= best) {
                return;
            }
            if (count >= pad.length) {
                best = row.breaks();
                return;
            }
            int passed = 0;
            for (int place = 0; place < pad.length && passed <= places; place++) {
                if ((gone >> place & 1) == 0) {
                    row.put(pad.signAt(place));
                    walk(count + 1, gone | 1 << place, places);
                    row.drop();
                    passed++;
                }
            }
        }
    }
}
