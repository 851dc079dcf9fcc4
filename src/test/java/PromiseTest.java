/** Each promise by its number: ordinary inputs, the edges that the document names, and wrong inputs. */
public final class PromiseTest {
    private static final int UNKNOWN = -1, OUTSIDE = -2, STATE = -3, FULL = -4, NONE = -6, FAULT = -7;
    private static final int LOW = Integer.MIN_VALUE, HIGH = Integer.MAX_VALUE;

    private static int asked = 0;
    private static int wrong = 0;
    private static int promise = 0;

    public static void main(String[] args) {
        newObject();
        option();
        options();
        demand();
        told();
        of();
        fits();
        least();
        clash();
        orders();
        at();
        rule();
        near();
        say();
        wipe();
        row();
        filled();
        lane();
        image();
        restore();
        count();
        System.out.println(asked + " answers, " + wrong + " of them not as due");
        if (wrong != 0) {
            System.exit(1);
        }
    }

    private static void due(String call, int got, int want) {
        asked++;
        if (got != want) {
            wrong++;
            System.out.println("promise " + promise + ": " + call + " answered " + got + ", due is " + want);
        }
    }

    /** Sets and DEMANDS of the first CLASSES, two numbers a CLASS. */
    private static CarOrders with(int... setsAndDemands) {
        CarOrders x = new CarOrders();
        for (int n = 0; n + 1 < setsAndDemands.length; n += 2) {
            x.options(n / 2, setsAndDemands[n]);
            x.demand(n / 2, setsAndDemands[n + 1]);
        }
        return x;
    }

    private static void write(CarOrders x, String signs) {
        x.wipe();
        for (int n = 0; n < signs.length(); n++) {
            x.say(signs.charAt(n));
        }
    }

    private interface Place {
        int at(int i);
    }

    /** The CLASSES at all places are these, and there is no place more. */
    private static void dueRow(String call, Place place, String classes) {
        for (int i = 0; i < classes.length(); i++) {
            due(call + "(" + i + ")", place.at(i), classes.charAt(i) - '0');
        }
        due(call + "(" + classes.length() + ")", place.at(classes.length()), NONE);
        due(call + "(10)", place.at(10), NONE);
        due(call + "(HIGH)", place.at(HIGH), NONE);
    }

    private static void dueOutsideBelowWhole(String call, Place place) {
        due(call + "(-2)", place.at(-2), OUTSIDE);
        due(call + "(-3)", place.at(-3), OUTSIDE);
        due(call + "(LOW)", place.at(LOW), OUTSIDE);
    }

    private static void dueNew(CarOrders x) {
        for (int cls = 0; cls < 5; cls++) {
            due("told(" + cls + ", 0)", x.told(cls, 0), 0);
            due("told(" + cls + ", 1)", x.told(cls, 1), 0);
        }
        for (int option = 0; option < 4; option++) {
            due("of(" + option + ", 0)", x.of(option, 0), 1);
            due("of(" + option + ", 1)", x.of(option, 1), 2);
            due("of(" + option + ", 2)", x.of(option, 2), 0);
            due("of(" + option + ", 3)", x.of(option, 3), 0);
        }
    }

    private static void newObject() {
        promise = 1;
        CarOrders x = new CarOrders();
        dueNew(x);
        due("count(0)", x.count(0), 0);
        due("count(1)", x.count(1), 0);
        due("count(2)", x.count(2), 0);
        due("count(3)", x.count(3), 1);
        due("count(4)", x.count(4), 0);
        due("restore(0)", x.restore(0), STATE);
        due("restore(1)", x.restore(1), STATE);
        due("wipe()", x.wipe(), 0);
        CarOrders other = new CarOrders();
        other.options(0, 7);
        other.demand(0, 3);
        other.say('1');
        other.image(0);
        dueNew(x);
        due("count(2) of the other", other.count(2), 1);
        due("count(2)", x.count(2), 0);
        due("count(4)", x.count(4), 0);
    }

    private static void option() {
        promise = 2;
        CarOrders x = new CarOrders();
        due("option(0, 1, 1)", x.option(0, 1, 1), 12);
        due("option(0, 5, 5)", x.option(0, 5, 5), 11);
        due("option(0, 3, 4)", x.option(0, 3, 4), 55);
        due("option(3, 2, 5)", x.option(3, 2, 5), 12);
        due("option(3, 2, 5)", x.option(3, 2, 5), 25);
        int[][] outside = {{0, 2}, {3, 2}, {1, 0}, {0, 0}, {-1, 3}, {1, -1}, {1, 6}, {6, 6}, {6, 5}, {LOW, 2}, {1, LOW},
            {HIGH, 5}, {1, HIGH}, {HIGH, HIGH}};
        for (int[] pair : outside) {
            due("option(0, " + pair[0] + ", " + pair[1] + ")", x.option(0, pair[0], pair[1]), OUTSIDE);
        }
        for (int option : new int[] {-1, 4, LOW, HIGH}) {
            due("option(" + option + ", 1, 2)", x.option(option, 1, 2), UNKNOWN);
            due("option(" + option + ", 3, 2)", x.option(option, 3, 2), UNKNOWN);
            due("option(" + option + ", 0, 9)", x.option(option, 0, 9), UNKNOWN);
        }
        due("of(0, 0)", x.of(0, 0), 3);
        due("of(0, 1)", x.of(0, 1), 4);
        due("of(1, 0)", x.of(1, 0), 1);
        due("of(1, 1)", x.of(1, 1), 2);
        due("of(3, 0)", x.of(3, 0), 2);
        due("of(3, 1)", x.of(3, 1), 5);
        optionIsSeenAtOnce();
    }

    private static void optionIsSeenAtOnce() {
        CarOrders x = with(1, 3, 0, 1);
        write(x, "0001");
        due("fits(-1)", x.fits(-1), 0);
        due("least(-1)", x.least(-1), 1);
        due("orders(1)", x.orders(1), 2);
        due("filled(-1)", x.filled(-1), 0);
        due("row(0)", x.row(0), 2);
        x.option(0, 2, 3);
        due("fits(-1)", x.fits(-1), 2);
        due("least(-1)", x.least(-1), 0);
        due("orders(1)", x.orders(1), 1);
        due("row(0)", x.row(0), 1);
        x.option(0, 3, 4);
        due("filled(-1)", x.filled(-1), 1);
        due("orders(1)", x.orders(1), 0);
    }

    private static void options() {
        promise = 3;
        CarOrders x = new CarOrders();
        due("options(0, 15)", x.options(0, 15), 0);
        due("options(0, 0)", x.options(0, 0), 15);
        due("options(0, 6)", x.options(0, 6), 0);
        due("options(4, 9)", x.options(4, 9), 0);
        for (int set : new int[] {-1, 16, LOW, HIGH}) {
            due("options(4, " + set + ")", x.options(4, set), OUTSIDE);
            due("options(-1, " + set + ")", x.options(-1, set), UNKNOWN);
            due("options(5, " + set + ")", x.options(5, set), UNKNOWN);
        }
        due("options(LOW, 0)", x.options(LOW, 0), UNKNOWN);
        due("options(HIGH, 0)", x.options(HIGH, 0), UNKNOWN);
        due("told(0, 0)", x.told(0, 0), 6);
        due("told(4, 0)", x.told(4, 0), 9);
        due("told(1, 0)", x.told(1, 0), 0);
        CarOrders y = with(0, 2, 0, 1);
        write(y, "001");
        due("fits(-1)", y.fits(-1), 3);
        due("orders(1)", y.orders(1), 0);
        due("filled(-1)", y.filled(-1), 1);
        y.options(0, 4);
        due("fits(-1)", y.fits(-1), 1);
        due("orders(1)", y.orders(1), 1);
        due("orders(2)", y.orders(2), 1);
        due("filled(-1)", y.filled(-1), 0);
    }

    private static void demand() {
        promise = 4;
        CarOrders x = new CarOrders();
        due("demand(0, 4)", x.demand(0, 4), 4);
        due("demand(4, 5)", x.demand(4, 5), 9);
        due("demand(1, 0)", x.demand(1, 0), 9);
        due("demand(1, 1)", x.demand(1, 1), FULL);
        due("demand(0, 5)", x.demand(0, 5), FULL);
        due("demand(0, 9)", x.demand(0, 9), FULL);
        due("demand(0, 10)", x.demand(0, 10), OUTSIDE);
        due("demand(0, -1)", x.demand(0, -1), OUTSIDE);
        due("demand(0, LOW)", x.demand(0, LOW), OUTSIDE);
        due("demand(0, HIGH)", x.demand(0, HIGH), OUTSIDE);
        for (int cls : new int[] {-1, 5, LOW, HIGH}) {
            due("demand(" + cls + ", 9)", x.demand(cls, 9), UNKNOWN);
            due("demand(" + cls + ", 10)", x.demand(cls, 10), UNKNOWN);
        }
        due("told(0, 1)", x.told(0, 1), 4);
        due("told(4, 1)", x.told(4, 1), 5);
        due("demand(4, 5)", x.demand(4, 5), 9);
        due("demand(4, 0)", x.demand(4, 0), 4);
        due("demand(0, 9)", x.demand(0, 9), 9);
        due("demand(0, 0)", x.demand(0, 0), 0);
        x.demand(2, 2);
        due("fits(-1)", x.fits(-1), 1);
        due("fits(1)", x.fits(1), 2);
        due("fits(2)", x.fits(2), NONE);
        x.demand(3, 1);
        due("fits(-1)", x.fits(-1), 3);
        due("fits(2)", x.fits(2), 3);
    }

    private static void told() {
        promise = 5;
        CarOrders x = with(1, 1, 2, 3, 15, 0, 8, 2, 0, 3);
        int[] sets = {1, 2, 15, 8, 0};
        int[] demands = {1, 3, 0, 2, 3};
        for (int cls = 0; cls < 5; cls++) {
            due("told(" + cls + ", 0)", x.told(cls, 0), sets[cls]);
            due("told(" + cls + ", 1)", x.told(cls, 1), demands[cls]);
            for (int what : new int[] {-1, 2, LOW, HIGH}) {
                due("told(" + cls + ", " + what + ")", x.told(cls, what), OUTSIDE);
            }
        }
        for (int cls : new int[] {-1, 5, LOW, HIGH}) {
            due("told(" + cls + ", 0)", x.told(cls, 0), UNKNOWN);
            due("told(" + cls + ", 2)", x.told(cls, 2), UNKNOWN);
        }
    }

    private static void of() {
        promise = 6;
        CarOrders x = with(1, 2, 3, 3, 8, 2, 9, 1);
        due("of(0, 2)", x.of(0, 2), 6);
        due("of(1, 2)", x.of(1, 2), 3);
        due("of(2, 2)", x.of(2, 2), 0);
        due("of(3, 2)", x.of(3, 2), 3);
        due("of(0, 3)", x.of(0, 3), 4);
        x.option(0, 2, 3);
        due("of(0, 3)", x.of(0, 3), 6);
        x.option(0, 2, 5);
        due("of(0, 3)", x.of(0, 3), 4);
        x.option(0, 4, 5);
        due("of(0, 3)", x.of(0, 3), 7);
        x.option(0, 1, 1);
        due("of(0, 3)", x.of(0, 3), 8);
        x.option(0, 1, 5);
        due("of(0, 3)", x.of(0, 3), 2);
        due("of(0, 0)", x.of(0, 0), 1);
        due("of(0, 1)", x.of(0, 1), 5);
        for (int what : new int[] {-1, 4, LOW, HIGH}) {
            due("of(3, " + what + ")", x.of(3, what), OUTSIDE);
            due("of(4, " + what + ")", x.of(4, what), UNKNOWN);
        }
        for (int option : new int[] {-1, 4, LOW, HIGH}) {
            due("of(" + option + ", 0)", x.of(option, 0), UNKNOWN);
        }
        CarOrders few = with(1, 3);
        few.option(0, 2, 5);
        due("of(0, 3), n less than OF", few.of(0, 3), 2);
    }

    private static void fits() {
        promise = 7;
        CarOrders x = with(1, 2, 0, 3);
        due("fits(-1)", x.fits(-1), 6);
        dueRow("fits", x::fits, "01011");
        dueOutsideBelowWhole("fits", x::fits);
        CarOrders none = with(1, 3, 0, 1);
        due("fits(-1), none", none.fits(-1), 0);
        due("fits(0), none", none.fits(0), NONE);
        due("fits(3), none", none.fits(3), NONE);
        due("fits(4), none", none.fits(4), NONE);
        due("fits(-2), none", none.fits(-2), OUTSIDE);
        CarOrders empty = new CarOrders();
        due("fits(-1), no demand", empty.fits(-1), 1);
        due("fits(0), no demand", empty.fits(0), NONE);
        CarOrders few = with(1, 4);
        few.option(0, 1, 5);
        due("fits(-1), fewer than OF", few.fits(-1), 1);
        few.demand(0, 5);
        due("fits(-1), as many as OF", few.fits(-1), 0);
        CarOrders last = with(0, 1, 1, 2);
        due("fits(-1), the first fitting is not the first order", last.fits(-1), 1);
        dueRow("fits", last::fits, "101");
        CarOrders many = with(0, 2, 0, 2, 0, 2, 0, 2, 0, 1);
        due("fits(-1), as many as can be", many.fits(-1), 22680);
        dueRow("fits", many::fits, "001122334");
        CarOrders two = with(3, 2, 0, 2, 2, 1);
        due("fits(-1), two options", two.fits(-1), 3);
        dueRow("fits", two::fits, "01012");
    }

    private static void least() {
        promise = 8;
        CarOrders x = with(1, 3, 0, 1);
        due("least(-1)", x.least(-1), 1);
        dueRow("least", x::least, "0010");
        dueOutsideBelowWhole("least", x::least);
        x.demand(1, 2);
        due("least(-1)", x.least(-1), 0);
        dueRow("least", x::least, "01010");
        CarOrders empty = new CarOrders();
        due("least(-1), no demand", empty.least(-1), 0);
        due("least(0), no demand", empty.least(0), NONE);
        due("least(-2), no demand", empty.least(-2), OUTSIDE);
        CarOrders both = with(3, 3);
        due("least(-1), of all options, added", both.least(-1), 4);
        dueRow("least", both::least, "000");
        CarOrders late = with(1, 2, 0, 2);
        late.option(0, 1, 3);
        due("least(-1), less than the rule comes to", late.least(-1), 0);
        due("orders(2)", late.orders(2), 1);
        dueRow("least", late::least, "0110");
        CarOrders full = with(8, 0, 0, 0, 0, 0, 0, 0, 8, 9);
        full.option(3, 4, 5);
        due("least(-1)", full.least(-1), 5);
        dueRow("least", full::least, "444444444");
    }

    private static void clash() {
        promise = 9;
        CarOrders x = with(15, 3, 0, 2);
        due("clash()", x.clash(), 0);
        x.demand(1, 1);
        due("clash()", x.clash(), 15);
        x.option(1, 2, 3);
        x.option(2, 3, 4);
        due("clash()", x.clash(), 1 + 8);
        x.option(0, 1, 1);
        due("clash()", x.clash(), 8);
        x.options(0, 7);
        due("clash()", x.clash(), 0);
        CarOrders few = with(4, 2);
        few.option(2, 1, 5);
        due("clash(), though nothing can break", few.clash(), 4);
        due("fits(-1)", few.fits(-1), 1);
        due("clash(), no demand", new CarOrders().clash(), 0);
    }

    private static void orders() {
        promise = 10;
        CarOrders x = with(1, 3, 0, 1);
        due("orders(0)", x.orders(0), 4);
        due("orders(1)", x.orders(1), 2);
        due("orders(2)", x.orders(2), 2);
        for (int what : new int[] {-1, 3, -2, LOW, HIGH}) {
            due("orders(" + what + ")", x.orders(what), OUTSIDE);
        }
        CarOrders empty = new CarOrders();
        due("orders(0), no demand", empty.orders(0), 1);
        due("orders(1), no demand", empty.orders(1), 0);
        due("orders(2), no demand", empty.orders(2), 1);
        CarOrders many = with(1, 2, 1, 2, 1, 2, 1, 2, 0, 1);
        due("orders(0)", many.orders(0), 22680);
        due("orders(1)", many.orders(1), 7);
        due("orders(2)", many.orders(2), 7 * 2520);
        due("least(-1)", many.least(-1), 6);
        CarOrders both = with(3, 2, 1, 1);
        due("orders(1), of all options, added", both.orders(1), 3);
        due("orders(2)", both.orders(2), 1);
        due("least(-1)", both.least(-1), 2);
        CarOrders few = with(9, 1, 9, 1);
        few.option(0, 1, 5);
        due("orders(1), fewer cars than one OF", few.orders(1), 1);
        due("orders(2)", few.orders(2), 2);
        few.option(3, 1, 4);
        due("orders(1), fewer cars than any OF", few.orders(1), 0);
    }

    private static void at() {
        promise = 11;
        CarOrders x = with(1, 2, 0, 1, 0, 0, 0, 0, 0, 1);
        due("fits(-1)", x.fits(-1), 6);
        due("at(0)", x.at(0), 1 + 2 + 16);
        CarOrders y = with(1, 3, 0, 1, 0, 0, 0, 0, 0, 1);
        int[] sets = {1, 2 + 16, 1, 2 + 16, 1};
        for (int i = 0; i < 5; i++) {
            due("at(" + i + ")", y.at(i), sets[i]);
        }
        for (int i : new int[] {5, 9, 10, HIGH, -1, -2, LOW}) {
            due("at(" + i + ")", y.at(i), NONE);
        }
        y.demand(1, 0);
        due("at(0), none fits", y.at(0), NONE);
        due("at(-1), none fits", y.at(-1), NONE);
        y.demand(0, 2);
        due("at(0), fewer places", y.at(0), 1);
        due("at(2), fewer places", y.at(2), 1);
        due("at(3), fewer places", y.at(3), NONE);
        CarOrders z = with(1, 2, 0, 3);
        due("at(0)", z.at(0), 1 + 2);
        z.demand(1, 2);
        z.demand(0, 3);
        due("at(0), no longer all", z.at(0), 1);
        due("at(4), no longer all", z.at(4), 1);
        due("at(0), no demand", new CarOrders().at(0), NONE);
    }

    private static void rule() {
        promise = 12;
        CarOrders breaks = with(1, 2, 0, 3);
        due("rule(-1)", breaks.rule(-1), 0);
        dueRow("rule: fewest breaks", breaks::rule, "01011");
        dueOutsideBelowWhole("rule", breaks::rule);
        CarOrders added = with(3, 2, 1, 1);
        due("rule(-1), breaks of all options", added.rule(-1), 2);
        dueRow("rule: breaks of all options, added", added::rule, "010");
        CarOrders most = with(0, 1, 6, 1, 1, 2);
        due("rule(-1)", most.rule(-1), 0);
        dueRow("rule: most options ahead of most cars left", most::rule, "1202");
        CarOrders left = with(0, 1, 0, 3, 0, 2);
        dueRow("rule: most cars left, then the least class", left::rule, "112012");
        CarOrders bad = with(1, 3, 0, 1);
        due("rule(-1)", bad.rule(-1), 1);
        dueRow("rule", bad::rule, "0100");
        bad.demand(1, 2);
        dueRow("rule, as things are now", bad::rule, "01010");
        CarOrders late = with(1, 2, 0, 2);
        late.option(0, 1, 3);
        due("rule(-1), no break in fewer than OF", late.rule(-1), 1);
        dueRow("rule: no break in fewer than OF", late::rule, "0011");
        CarOrders empty = new CarOrders();
        due("rule(-1), no demand", empty.rule(-1), 0);
        due("rule(0), no demand", empty.rule(0), NONE);
        due("rule(-2), no demand", empty.rule(-2), OUTSIDE);
    }

    private static void near() {
        promise = 13;
        CarOrders x = with(0, 3, 1, 2);
        due("near(-1)", x.near(-1), 0);
        dueRow("near: not the first that fits", x::near, "10100");
        dueRow("fits", x::fits, "00101");
        dueOutsideBelowWhole("near", x::near);
        CarOrders late = with(1, 2, 0, 2);
        late.option(0, 1, 3);
        due("near(-1): the rule's order does not fit", late.near(-1), 1);
        dueRow("near", late::near, "0110");
        CarOrders equal = with(1, 2, 0, 2, 0, 1);
        equal.option(0, 1, 3);
        due("near(-1): four have so little", equal.near(-1), 1);
        dueRow("near: the first of four", equal::near, "01102");
        CarOrders none = with(1, 3, 0, 1);
        due("near(-1), none fits", none.near(-1), NONE);
        due("near(0), none fits", none.near(0), NONE);
        due("near(-2), none fits", none.near(-2), OUTSIDE);
        none.demand(1, 2);
        due("near(-1), as things are now", none.near(-1), 0);
        CarOrders empty = new CarOrders();
        due("near(-1), no demand", empty.near(-1), 0);
        due("near(0), no demand", empty.near(0), NONE);
    }

    private static void say() {
        promise = 14;
        CarOrders x = new CarOrders();
        String signs = "01234?40?";
        for (int n = 0; n < 9; n++) {
            for (int sign : new int[] {47, 53, 62, 64, 0, 4, -1, LOW, HIGH}) {
                due("say(" + sign + ")", x.say(sign), OUTSIDE);
            }
            due("say(" + signs.charAt(n) + ")", x.say(signs.charAt(n)), n + 1);
            due("count(2)", x.count(2), n + 1);
        }
        due("say(48), full", x.say(48), FULL);
        due("say(63), full", x.say(63), FULL);
        due("say(53), full", x.say(53), OUTSIDE);
        due("count(2)", x.count(2), 9);
        due("wipe()", x.wipe(), 9);
        due("say(52)", x.say(52), 1);
        CarOrders y = with(0, 1, 0, 1);
        write(y, "1");
        due("filled(-1)", y.filled(-1), 0);
        y.say('0');
        due("filled(-1), a sign later", y.filled(-1), 1);
        y.say('?');
        due("filled(-1), another later", y.filled(-1), 0);
        due("row(0)", y.row(0), FAULT);
    }

    private static void wipe() {
        promise = 15;
        CarOrders x = with(1, 2, 0, 1);
        x.image(1);
        due("wipe()", x.wipe(), 0);
        write(x, "0?0");
        due("filled(-1)", x.filled(-1), 1);
        due("row(0)", x.row(0), FAULT);
        due("wipe()", x.wipe(), 3);
        due("wipe()", x.wipe(), 0);
        due("count(2)", x.count(2), 0);
        due("row(0)", x.row(0), 0);
        due("filled(-1)", x.filled(-1), 0);
        due("fits(-1)", x.fits(-1), 1);
        due("count(0)", x.count(0), 3);
        due("count(4)", x.count(4), 2);
    }

    private static void dueRowOf(CarOrders x, String signs, int breaks, int first, int off) {
        write(x, signs);
        due("row(0) of " + signs, x.row(0), breaks);
        due("row(1) of " + signs, x.row(1), first);
        due("row(2) of " + signs, x.row(2), off);
    }

    private static void row() {
        promise = 16;
        CarOrders x = with(0, 3, 1, 2);
        dueRowOf(x, "10100", 0, NONE, 0);
        dueRowOf(x, "00101", 0, NONE, 2);
        dueRowOf(x, "00011", 1, 4, 3);
        dueRowOf(x, "11000", 1, 1, 1);
        dueRowOf(x, "1010", 0, NONE, NONE);
        dueRowOf(x, "101000", 0, NONE, NONE);
        dueRowOf(x, "10101", 0, NONE, NONE);
        dueRowOf(x, "111111111", 8, 1, NONE);
        dueRowOf(x, "44444", 0, NONE, NONE);
        dueRowOf(x, "", 0, NONE, NONE);
        dueRowOf(new CarOrders(), "", 0, NONE, 0);
        x.option(0, 1, 3);
        dueRowOf(x, "11", 0, NONE, NONE);
        dueRowOf(x, "110", 1, 2, NONE);
        dueRowOf(x, "01010", 1, 3, 2);
        CarOrders two = with(1, 0, 2, 0, 3, 0);
        dueRowOf(two, "0100110", 2, 3, NONE);
        dueRowOf(two, "222", 4, 1, NONE);
        dueRowOf(two, "121", 2, 1, NONE);
        for (int what : new int[] {-1, 3, LOW, HIGH}) {
            due("row(" + what + ")", two.row(what), OUTSIDE);
        }
        write(two, "012?");
        for (int what = 0; what < 3; what++) {
            due("row(" + what + ") with a ?", two.row(what), FAULT);
        }
        due("row(3) with a ?", two.row(3), OUTSIDE);
        write(two, "?012");
        due("row(0), a ? at first", two.row(0), FAULT);
        due("row(-1) with a ?", two.row(-1), OUTSIDE);
    }

    private static void dueFilled(CarOrders x, String signs, int all, String first) {
        write(x, signs);
        due("filled(-1) of " + signs, x.filled(-1), all);
        dueRow("filled of " + signs, x::filled, first);
        dueOutsideBelowWhole("filled of " + signs, x::filled);
    }

    private static void filled() {
        promise = 17;
        CarOrders x = with(1, 2, 0, 3);
        dueFilled(x, "?????", 6, "01011");
        dueFilled(x, "1????", 3, "10101");
        dueFilled(x, "??0??", 2, "01011");
        dueFilled(x, "11???", 1, "11010");
        dueFilled(x, "????0", 3, "01110");
        dueFilled(x, "10110", 1, "10110");
        dueFilled(x, "00111", 0, "");
        dueFilled(x, "00???", 0, "");
        dueFilled(x, "2????", 0, "");
        dueFilled(x, "111?1", 0, "");
        dueFilled(x, "????", 0, "");
        dueFilled(x, "??????", 0, "");
        dueFilled(x, "", 0, "");
        dueFilled(new CarOrders(), "", 1, "");
        dueFilled(new CarOrders(), "?", 0, "");
        write(x, "????");
        x.demand(1, 2);
        due("filled(-1), as things are now", x.filled(-1), 3);
    }

    private static void dueLanes(CarOrders x, String signs, int without, int one, int two) {
        write(x, signs);
        due("lane(0) of " + signs, x.lane(0), without);
        due("lane(1) of " + signs, x.lane(1), one);
        due("lane(2) of " + signs, x.lane(2), two);
        due("lane(0) of " + signs, x.lane(0), without);
        due("count(2)", x.count(2), signs.length());
    }

    private static void lane() {
        promise = 18;
        CarOrders x = with(1, 0, 0, 0);
        dueLanes(x, "", 0, 0, 0);
        dueLanes(x, "0", 0, 0, 0);
        dueLanes(x, "00", 1, 1, 1);
        dueLanes(x, "0011", 1, 0, 0);
        dueLanes(x, "00011", 2, 1, 0);
        dueLanes(x, "11100", 1, 0, 0);
        dueLanes(x, "000111", 2, 1, 0);
        dueLanes(x, "111000", 2, 1, 0);
        dueLanes(x, "000011111", 3, 2, 1);
        dueLanes(x, "000000000", 8, 8, 8);
        CarOrders behind = with(1, 4, 0, 1);
        write(behind, "00011");
        due("rule(-1)", behind.rule(-1), 2);
        due("lane(2), behind another call", behind.lane(2), 0);
        due("rule(-1)", behind.rule(-1), 2);
        due("lane(0), behind another call", behind.lane(0), 2);
        behind.demand(1, 5);
        write(behind, "00");
        due("rule(-1), nine cars", behind.rule(-1), 0);
        due("lane(0), behind nine cars", behind.lane(0), 1);
        x.option(0, 2, 2);
        dueLanes(x, "000000000", 0, 0, 0);
        for (int k : new int[] {-1, 3, LOW, HIGH}) {
            due("lane(" + k + ")", x.lane(k), OUTSIDE);
        }
        write(x, "0?");
        due("lane(0) with a ?", x.lane(0), FAULT);
        due("lane(2) with a ?", x.lane(2), FAULT);
        due("lane(3) with a ?", x.lane(3), OUTSIDE);
        due("lane(-1) with a ?", x.lane(-1), OUTSIDE);
        due("row(0)", x.row(0), FAULT);
        write(x, "?0");
        due("lane(1), a ? at first", x.lane(1), FAULT);
    }

    private static void image() {
        promise = 19;
        CarOrders x = with(1, 2, 0, 1);
        for (int k : new int[] {-1, 2, LOW, HIGH}) {
            due("image(" + k + ")", x.image(k), OUTSIDE);
        }
        due("count(4)", x.count(4), 0);
        due("image(1)", x.image(1), 1);
        due("count(4)", x.count(4), 2);
        due("image(0)", x.image(0), 1);
        due("count(4)", x.count(4), 3);
        due("told(0, 1)", x.told(0, 1), 2);
        x.demand(0, 5);
        due("image(0), again", x.image(0), 1);
        x.demand(0, 0);
        x.restore(0);
        due("told(0, 1), in place of what was kept", x.told(0, 1), 5);
        x.restore(1);
        due("told(0, 1), the other", x.told(0, 1), 2);
    }

    private static void restore() {
        promise = 20;
        CarOrders x = with(1, 2, 2, 1, 4, 1, 8, 1, 15, 1);
        for (int option = 0; option < 4; option++) {
            x.option(option, 1, 2 + option);
        }
        x.image(0);
        due("restore(1)", x.restore(1), STATE);
        for (int k : new int[] {-1, 2, LOW, HIGH}) {
            due("restore(" + k + ")", x.restore(k), OUTSIDE);
        }
        write(x, "0?");
        for (int times = 0; times < 2; times++) {
            int fits = x.fits(-1);
            int most = x.orders(1);
            int least = x.least(-1);
            for (int cls = 0; cls < 5; cls++) {
                x.options(cls, 0);
                x.demand(cls, 0);
            }
            for (int option = 0; option < 4; option++) {
                x.option(option, 2, 2);
            }
            x.demand(0, 2);
            due("fits(-1)", x.fits(-1), 1);
            due("filled(-1)", x.filled(-1), 1);
            x.image(1);
            due("restore(0)", x.restore(0), 1);
            dueRestored(x);
            due("fits(-1)", x.fits(-1), fits);
            due("orders(1)", x.orders(1), most);
            due("least(-1)", x.least(-1), least);
            due("filled(-1)", x.filled(-1), 0);
            due("count(2): the pad is no part of it", x.count(2), 2);
            due("count(4): nor are the images", x.count(4), 3);
        }
        due("restore(1)", x.restore(1), 1);
        due("told(0, 1)", x.told(0, 1), 2);
        due("told(1, 1)", x.told(1, 1), 0);
        due("filled(-1)", x.filled(-1), 1);
    }

    private static void dueRestored(CarOrders x) {
        int[] sets = {1, 2, 4, 8, 15};
        int[] demands = {2, 1, 1, 1, 1};
        for (int cls = 0; cls < 5; cls++) {
            due("told(" + cls + ", 0)", x.told(cls, 0), sets[cls]);
            due("told(" + cls + ", 1)", x.told(cls, 1), demands[cls]);
        }
        for (int option = 0; option < 4; option++) {
            due("of(" + option + ", 0)", x.of(option, 0), 1);
            due("of(" + option + ", 1)", x.of(option, 1), 2 + option);
        }
    }

    private static void count() {
        promise = 21;
        CarOrders x = with(1, 2, 0, 0, 0, 0, 0, 0, 0, 3);
        due("count(0)", x.count(0), 5);
        due("count(1)", x.count(1), 2);
        due("count(2)", x.count(2), 0);
        due("count(3)", x.count(3), 0);
        due("count(4)", x.count(4), 0);
        due("count(1), a demand of 1", with(0, 1, 0, 0, 0, 9, 0, 8).count(1), 2);
        String[] pads = {"40404", "00444", "4040", "404044", "40401", "4040?", "?????", "04044", ""};
        int[] areOrders = {1, 1, 0, 0, 0, 0, 0, 1, 0};
        for (int n = 0; n < pads.length; n++) {
            write(x, pads[n]);
            due("count(2) of " + pads[n], x.count(2), pads[n].length());
            due("count(3) of " + pads[n], x.count(3), areOrders[n]);
        }
        x.image(1);
        due("count(4)", x.count(4), 2);
        x.image(0);
        due("count(4)", x.count(4), 3);
        CarOrders y = new CarOrders();
        y.image(0);
        due("count(4)", y.count(4), 1);
        for (int what : new int[] {-1, 5, LOW, HIGH}) {
            due("count(" + what + ")", x.count(what), OUTSIDE);
        }
    }
}
