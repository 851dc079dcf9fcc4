/**
 * Cars in order on a line. The words in capitals are those of the document (../shared/DOC.md).
 *
 * <p>All rows are made with the object and used again, so that no call makes an object.
 */
public final class CarOrders {
    public static final int UNKNOWN = -1, OUTSIDE = -2, STATE = -3, FULL = -4, NONE = -6, FAULT = -7;

    private static final int OPTION_COUNT = 4;
    private static final int ALL_OPTIONS = 15;
    private static final int OF_LIMIT = 5;
    private static final int CLASS_COUNT = 5;
    private static final int CAR_LIMIT = 9;
    private static final int LANE_LIMIT = 2;
    private static final int IMAGE_COUNT = 2;

    /** Asked for in place of a place: the number that is told of the whole. */
    private static final int WHOLE = -1;

    private final Plan plan = new Plan();
    private final Pad pad = new Pad();
    private final Row walked = new Row(plan);
    private final Survey survey = new Survey(plan, walked);
    private final Filling filling = new Filling(plan, pad, walked);
    private final Siding siding = new Siding(pad, walked);
    private final Plan firstImage = new Plan();
    private final Plan secondImage = new Plan();
    private int imagesKept = 0;

    public CarOrders() {
    }

    // ---- 1 options, classes

    public int option(int option, int may, int of) {
        if (!isOption(option)) {
            return UNKNOWN;
        }
        if (of < 1 || of > OF_LIMIT || may < 1 || may > of) {
            return OUTSIDE;
        }
        int before = 10 * plan.may[option] + plan.of[option];
        plan.setOption(option, may, of);
        forgetOrders();
        return before;
    }

    public int options(int cls, int set) {
        if (!isClass(cls)) {
            return UNKNOWN;
        }
        if (set < 0 || set > ALL_OPTIONS) {
            return OUTSIDE;
        }
        int before = plan.sets[cls];
        plan.sets[cls] = set;
        forgetOrders();
        return before;
    }

    public int demand(int cls, int n) {
        if (!isClass(cls)) {
            return UNKNOWN;
        }
        if (n < 0 || n > CAR_LIMIT) {
            return OUTSIDE;
        }
        int then = plan.cars() - plan.demands[cls] + n;
        if (then > CAR_LIMIT) {
            return FULL;
        }
        plan.demands[cls] = n;
        forgetOrders();
        return then;
    }

    public int told(int cls, int what) {
        if (!isClass(cls)) {
            return UNKNOWN;
        }
        switch (what) {
            case 0:
                return plan.sets[cls];
            case 1:
                return plan.demands[cls];
            default:
                return OUTSIDE;
        }
    }

    public int of(int option, int what) {
        if (!isOption(option)) {
            return UNKNOWN;
        }
        switch (what) {
            case 0:
                return plan.may[option];
            case 1:
                return plan.of[option];
            case 2:
                return plan.wanted(option);
            case 3:
                return plan.room(option);
            default:
                return OUTSIDE;
        }
    }

    // ---- 2 orders

    public int fits(int i) {
        if (i < WHOLE) {
            return OUTSIDE;
        }
        survey.refresh();
        if (i == WHOLE) {
            return survey.fitting;
        }
        return survey.fitting == 0 ? NONE : classAt(survey.firstFitting, i);
    }

    public int least(int i) {
        if (i < WHOLE) {
            return OUTSIDE;
        }
        survey.refresh();
        return i == WHOLE ? survey.least : classAt(survey.firstLeast, i);
    }

    public int clash() {
        int set = 0;
        for (int option = 0; option < OPTION_COUNT; option++) {
            if (plan.wanted(option) > plan.room(option)) {
                set |= 1 << option;
            }
        }
        return set;
    }

    public int orders(int what) {
        if (what < 0 || what > 2) {
            return OUTSIDE;
        }
        survey.refresh();
        switch (what) {
            case 0:
                return survey.all;
            case 1:
                return survey.most;
            default:
                return survey.withLeast;
        }
    }

    public int at(int i) {
        survey.refresh();
        return survey.fitting == 0 ? NONE : classAt(survey.fittingSets, i);
    }

    // ---- 3 the rule

    public int rule(int i) {
        if (i < WHOLE) {
            return OUTSIDE;
        }
        int cars = plan.cars();
        walked.start();
        for (int place = 0; place < cars; place++) {
            walked.put(walked.ruleClass());
        }
        return i == WHOLE ? walked.breaks() : classAt(walked.classes, i);
    }

    public int near(int i) {
        if (i < WHOLE) {
            return OUTSIDE;
        }
        survey.refresh();
        if (survey.fitting == 0) {
            return NONE;
        }
        return i == WHOLE ? survey.near : classAt(survey.firstNear, i);
    }

    // ---- 4 the pad, the lane

    public int say(int sign) {
        if ((sign < '0' || sign >= '0' + CLASS_COUNT) && sign != '?') {
            return OUTSIDE;
        }
        if (pad.length >= CAR_LIMIT) {
            return FULL;
        }
        pad.add(sign == '?' ? Pad.ANY : sign - '0');
        filling.forget();
        return pad.length;
    }

    public int wipe() {
        int before = pad.length;
        pad.length = 0;
        filling.forget();
        return before;
    }

    public int row(int what) {
        if (what < 0 || what > 2) {
            return OUTSIDE;
        }
        if (pad.hasAny()) {
            return FAULT;
        }
        int off = walkPad();
        switch (what) {
            case 0:
                return walked.breaks();
            case 1:
                return walked.firstBreak();
            default:
                return walked.isOrder() ? off : NONE;
        }
    }

    public int filled(int i) {
        if (i < WHOLE) {
            return OUTSIDE;
        }
        filling.refresh();
        if (i == WHOLE) {
            return filling.all;
        }
        return filling.all == 0 ? NONE : classAt(filling.first, i);
    }

    public int lane(int k) {
        if (k < 0 || k > LANE_LIMIT) {
            return OUTSIDE;
        }
        if (pad.hasAny()) {
            return FAULT;
        }
        return siding.putRight(k);
    }

    // ---- 5 images

    public int image(int k) {
        if (!isImage(k)) {
            return OUTSIDE;
        }
        imageOf(k).copyFrom(plan);
        imagesKept |= 1 << k;
        return 1;
    }

    public int restore(int k) {
        if (!isImage(k)) {
            return OUTSIDE;
        }
        if ((imagesKept >> k & 1) == 0) {
            return STATE;
        }
        plan.copyFrom(imageOf(k));
        forgetOrders();
        return 1;
    }

    public int count(int what) {
        switch (what) {
            case 0:
                return plan.cars();
            case 1:
                return plan.classesWithDemand();
            case 2:
                return pad.length;
            case 3:
                return padIsOrder() ? 1 : 0;
            case 4:
                return imagesKept;
            default:
                return OUTSIDE;
        }
    }

    private static boolean isOption(int option) {
        return option >= 0 && option < OPTION_COUNT;
    }

    private static boolean isClass(int cls) {
        return cls >= 0 && cls < CLASS_COUNT;
    }

    private static boolean isImage(int k) {
        return k >= 0 && k < IMAGE_COUNT;
    }

    private Plan imageOf(int k) {
        return k == 0 ? firstImage : secondImage;
    }

    /** What was found out of ORDERS no longer holds once OPTIONS, CLASSES or DEMANDS are others. */
    private void forgetOrders() {
        survey.forget();
        filling.forget();
    }

    /** What a list with an entry for each place of an ORDER has at a place. */
    private int classAt(int[] places, int i) {
        return i >= 0 && i < plan.cars() && i < places.length ? places[i] : NONE;
    }

    /** Walks the ROW on THE PAD, which has no ?; answers its OFF, which means nothing if it is no ORDER. */
    private int walkPad() {
        int off = 0;
        walked.start();
        for (int place = 0; place < pad.length; place++) {
            int cls = pad.signAt(place);
            if (walked.ruleClass() != cls) {
                off++;
            }
            walked.put(cls);
        }
        return off;
    }

    private boolean padIsOrder() {
        if (pad.hasAny()) {
            return false;
        }
        walkPad();
        return walked.isOrder();
    }

    /** OPTIONS and CLASSES: all that an IMAGE keeps. */
    private static final class Plan {
        /** One bit of each of the last five CARS of a trail (see Row). */
        private static final int WIDEST_WINDOW = 0x11111;

        private final int[] may = new int[OPTION_COUNT];
        private final int[] of = new int[OPTION_COUNT];
        /** Those bits of a trail that tell an OPTION of the last OF CARS. */
        private final int[] windows = new int[OPTION_COUNT];
        private final int[] sets = new int[CLASS_COUNT];
        private final int[] demands = new int[CLASS_COUNT];

        Plan() {
            for (int option = 0; option < OPTION_COUNT; option++) {
                setOption(option, 1, 2);
            }
        }

        void setOption(int option, int newMay, int newOf) {
            may[option] = newMay;
            of[option] = newOf;
            windows[option] = WIDEST_WINDOW >> OPTION_COUNT * (OF_LIMIT - newOf) << option;
        }

        void copyFrom(Plan other) {
            System.arraycopy(other.may, 0, may, 0, OPTION_COUNT);
            System.arraycopy(other.of, 0, of, 0, OPTION_COUNT);
            System.arraycopy(other.windows, 0, windows, 0, OPTION_COUNT);
            System.arraycopy(other.sets, 0, sets, 0, CLASS_COUNT);
            System.arraycopy(other.demands, 0, demands, 0, CLASS_COUNT);
        }

        int cars() {
            int sum = 0;
            for (int cls = 0; cls < CLASS_COUNT; cls++) {
                sum += demands[cls];
            }
            return sum;
        }

        int classesWithDemand() {
            int classes = 0;
            for (int cls = 0; cls < CLASS_COUNT; cls++) {
                if (demands[cls] > 0) {
                    classes++;
                }
            }
            return classes;
        }

        int wanted(int option) {
            int sum = 0;
            for (int cls = 0; cls < CLASS_COUNT; cls++) {
                if ((sets[cls] >> option & 1) != 0) {
                    sum += demands[cls];
                }
            }
            return sum;
        }

        int room(int option) {
            int width = of[option];
            if (width < 1) {
                return 0;
            }
            int cars = cars();
            return may[option] * (cars / width) + Math.min(may[option], cars % width);
        }

        /** BREAKS whose last CAR is the last one of a ROW with this trail. */
        int breaksAtEnd(int trail, int length) {
            int breaks = 0;
            for (int option = 0; option < OPTION_COUNT; option++) {
                if (length >= of[option] && Integer.bitCount(trail & windows[option]) > may[option]) {
                    breaks++;
                }
            }
            return breaks;
        }
    }

    /** THE PAD. */
    private static final class Pad {
        /** What stands for a ? among the CLASSES. */
        private static final int ANY = -1;

        private final int[] signs = new int[CAR_LIMIT];
        private int length = 0;

        void add(int sign) {
            if (length < CAR_LIMIT) {
                signs[length] = sign;
                length++;
            }
        }

        int signAt(int place) {
            return place >= 0 && place < length ? signs[place] : ANY;
        }

        boolean hasAny() {
            for (int place = 0; place < length; place++) {
                if (signs[place] == ANY) {
                    return true;
                }
            }
            return false;
        }

        boolean allows(int place, int cls) {
            int sign = signAt(place);
            return sign == ANY || sign == cls;
        }
    }

    /**
     * A ROW to which CARS are put, and from which the last one is dropped again.
     *
     * <p>Its trail has the OPTIONS of its last CARS, four bits a CAR, the last CAR's lowest: with it BREAKS are counted
     * without going back along the ROW.
     */
    private static final class Row {
        private final Plan plan;
        private final int[] classes = new int[CAR_LIMIT];
        /** Of the first n CARS, at n. */
        private final int[] trails = new int[CAR_LIMIT + 1];
        /** Of the first n CARS, at n. */
        private final int[] breaks = new int[CAR_LIMIT + 1];
        /** DEMANDS, less the CARS in the ROW: below 0 if it has more. */
        private final int[] left = new int[CLASS_COUNT];
        private int length = 0;

        Row(Plan plan) {
            this.plan = plan;
        }

        void start() {
            length = 0;
            System.arraycopy(plan.demands, 0, left, 0, CLASS_COUNT);
        }

        void put(int cls) {
            if (!isClass(cls) || length >= CAR_LIMIT) {
                return;
            }
            int trail = trailWith(cls);
            int before = breaks[length];
            classes[length] = cls;
            left[cls]--;
            length++;
            trails[length] = trail;
            breaks[length] = before + plan.breaksAtEnd(trail, length);
        }

        void drop() {
            if (length > 0) {
                length--;
                left[classes[length]]++;
            }
        }

        int breaks() {
            return breaks[length];
        }

        /** The place of the last CAR of the first BREAK. */
        int firstBreak() {
            for (int place = 0; place < length; place++) {
                if (breaks[place + 1] > 0) {
                    return place;
                }
            }
            return NONE;
        }

        boolean isOrder() {
            for (int cls = 0; cls < CLASS_COUNT; cls++) {
                if (left[cls] != 0) {
                    return false;
                }
            }
            return true;
        }

        /** The CLASS that THE RULE takes next, NONE if no CAR is left. */
        int ruleClass() {
            int taken = NONE;
            int best = 0;
            for (int cls = 0; cls < CLASS_COUNT; cls++) {
                if (left[cls] > 0) {
                    int rank = ruleRank(cls);
                    if (taken == NONE || rank < best) {
                        taken = cls;
                        best = rank;
                    }
                }
            }
            return taken;
        }

        /** Less for a CLASS that THE RULE takes rather; what weighs less has a lower decimal place. */
        private int ruleRank(int cls) {
            int come = plan.breaksAtEnd(trailWith(cls), length + 1);
            int lacking = OPTION_COUNT - Integer.bitCount(plan.sets[cls]);
            return 100 * come + 10 * lacking + CAR_LIMIT - left[cls];
        }

        private int trailWith(int cls) {
            return trails[length] << OPTION_COUNT | plan.sets[cls];
        }
    }

    /** What is told of all ORDERS, found out on one walk through them, the first one first. */
    private static final class Survey {
        private final Plan plan;
        private final Row row;
        private final int[] firstFitting = new int[CAR_LIMIT];
        private final int[] firstLeast = new int[CAR_LIMIT];
        private final int[] firstNear = new int[CAR_LIMIT];
        /** The CLASSES at each place of those that FIT. */
        private final int[] fittingSets = new int[CAR_LIMIT];
        private int cars = 0;
        private int all = 0;
        private int least = 0;
        private int withLeast = 0;
        private int most = 0;
        private int fitting = 0;
        private int near = 0;
        private boolean known = false;

        Survey(Plan plan, Row row) {
            this.plan = plan;
            this.row = row;
        }

        void forget() {
            known = false;
        }

        void refresh() {
            if (known) {
                return;
            }
            cars = plan.cars();
            all = 0;
            withLeast = 0;
            most = 0;
            fitting = 0;
            for (int place = 0; place < CAR_LIMIT; place++) {
                fittingSets[place] = 0;
            }
            row.start();
            walk(0, 0);
            known = true;
        }

        private void walk(int place, int off) {
            if (place >= cars) {
                noteOrder(off);
                return;
            }
            // OFF is asked only of ORDERS that FIT: behind a BREAK it need not be right.
            int ruled = row.breaks() == 0 ? row.ruleClass() : NONE;
            for (int cls = 0; cls < CLASS_COUNT; cls++) {
                if (row.left[cls] > 0) {
                    row.put(cls);
                    walk(place + 1, cls == ruled ? off : off + 1);
                    row.drop();
                }
            }
        }

        private void noteOrder(int off) {
            int breaks = row.breaks();
            if (all == 0 || breaks < least) {
                least = breaks;
                withLeast = 0;
                keepRow(firstLeast);
            }
            if (breaks == least) {
                withLeast++;
            }
            most = Math.max(most, breaks);
            all++;
            if (breaks == 0) {
                noteFitting(off);
            }
        }

        private void noteFitting(int off) {
            if (fitting == 0) {
                keepRow(firstFitting);
            }
            if (fitting == 0 || off < near) {
                near = off;
                keepRow(firstNear);
            }
            fitting++;
            for (int place = 0; place < cars; place++) {
                fittingSets[place] |= 1 << row.classes[place];
            }
        }

        private void keepRow(int[] places) {
            System.arraycopy(row.classes, 0, places, 0, CAR_LIMIT);
        }
    }

    /** What is FILLED, found out on one walk, the first ORDER first. */
    private static final class Filling {
        private final Plan plan;
        private final Pad pad;
        private final Row row;
        private final int[] first = new int[CAR_LIMIT];
        private int all = 0;
        private boolean known = false;

        Filling(Plan plan, Pad pad, Row row) {
            this.plan = plan;
            this.pad = pad;
            this.row = row;
        }

        void forget() {
            known = false;
        }

        void refresh() {
            if (known) {
                return;
            }
            all = 0;
            if (pad.length == plan.cars()) {
                row.start();
                walk(0);
            }
            known = true;
        }

        private void walk(int place) {
            if (row.breaks() > 0) {
                return;
            }
            if (place >= pad.length) {
                noteOrder();
                return;
            }
            for (int cls = 0; cls < CLASS_COUNT; cls++) {
                if (row.left[cls] > 0 && pad.allows(place, cls)) {
                    row.put(cls);
                    walk(place + 1);
                    row.drop();
                }
            }
        }

        private void noteOrder() {
            if (all == 0) {
                System.arraycopy(row.classes, 0, first, 0, CAR_LIMIT);
            }
            all++;
        }
    }

    /**
     * The LANE beside THE LINE.
     *
     * <p>The CARS in the LANE have always come ahead of those that are yet to come, and a CAR can go on if all that came
     * ahead of it and have not gone on are in the LANE. So with k places the next CAR that goes on is any one of the
     * first k + 1 that have not.
     */
    private static final class Siding {
        private final Pad pad;
        private final Row row;
        private int best = 0;

        Siding(Pad pad, Row row) {
            this.pad = pad;
            this.row = row;
        }

        int putRight(int places) {
            row.start();
            for (int place = 0; place < pad.length; place++) {
                row.put(pad.signAt(place));
            }
            best = row.breaks();
            row.start();
            walk(0, 0, places);
            return best;
        }

        /** Gone: the set of the places on THE PAD whose CARS have gone on. */
        private void walk(int count, int gone, int places) {
            if (row.breaks() >= best) {
                return;
            }
            if (count >= pad.length) {
                best = row.breaks();
                return;
            }
            int passed = 0;
            for (int place = 0; place < pad.length && passed <= places; place++) {
                if ((gone >> place & 1) == 0) {
                    row.put(pad.signAt(place));
                    walk(count + 1, gone | 1 << place, places);
                    row.drop();
                    passed++;
                }
            }
        }
    }
}
