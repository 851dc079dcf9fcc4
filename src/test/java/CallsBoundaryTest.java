/** Each sentence of the document's promises 1 to 21 that names a boundary case. */
public final class CallsBoundaryTest {
    private static final int UNKNOWN = Sentences.UNKNOWN, OUTSIDE = Sentences.OUTSIDE, STATE = Sentences.STATE,
        FULL = Sentences.FULL, NONE = Sentences.NONE, FAULT = Sentences.FAULT, HIGH = Sentences.HIGH;

    public static void main(String[] args) {
        newObject();
        optionsAndClasses();
        tellings();
        fits();
        least();
        clashAndOrders();
        at();
        rule();
        near();
        sayAndWipe();
        row();
        filled();
        lane();
        images();
        count();
        Sentences.end();
    }

    private static void due(String call, int got, int want) {
        Sentences.due(call, got, want);
    }

    private static CarOrders with(int... setsAndDemands) {
        return Sentences.with(setsAndDemands);
    }

    private static CarOrders with(String mayOf, int... setsAndDemands) {
        return Sentences.with(mayOf, setsAndDemands);
    }

    private static CarOrders write(CarOrders x, String signs) {
        return Sentences.write(x, signs);
    }

    /** As many ORDERS as there can be, all of which FIT. */
    private static CarOrders many() {
        return with(0, 2, 0, 2, 0, 2, 0, 2, 0, 1);
    }

    // ---- promise 1

    private static void newObject() {
        String where = "Promise 1";
        Sentences.sentence(where, "No CLASS has an OPTION, or a DEMAND", CallsBoundaryTest::newClasses);
        Sentences.sentence(where, "THE PAD is empty", CallsBoundaryTest::newPad);
        Sentences.sentence(where, "no IMAGE is kept.", CallsBoundaryTest::newImages);
    }

    private static void newClasses() {
        CarOrders x = new CarOrders();
        for (int cls = 0; cls < 5; cls++) {
            due("told(" + cls + ", 0)", x.told(cls, 0), 0);
            due("told(" + cls + ", 1)", x.told(cls, 1), 0);
        }
        due("count(0)", x.count(0), 0);
        due("count(1)", x.count(1), 0);
        due("clash()", x.clash(), 0);
        many();
        due("count(0), another was made", x.count(0), 0);
    }

    private static void newPad() {
        CarOrders x = new CarOrders();
        due("count(2)", x.count(2), 0);
        due("row(0)", x.row(0), 0);
        due("row(1)", x.row(1), NONE);
        due("lane(2)", x.lane(2), 0);
        due("wipe()", x.wipe(), 0);
        write(new CarOrders(), "0?");
        due("count(2), another was written on", x.count(2), 0);
    }

    private static void newImages() {
        due("count(4)", new CarOrders().count(4), 0);
        due("restore(0)", new CarOrders().restore(0), STATE);
        due("restore(1)", new CarOrders().restore(1), STATE);
        CarOrders x = new CarOrders();
        new CarOrders().image(0);
        due("restore(0), another kept one", x.restore(0), STATE);
    }

    // ---- promises 2, 3, 4

    private static void optionsAndClasses() {
        Sentences.sentence("Promise 2", "10 times the MAY and the OF that were.", CallsBoundaryTest::optionThatWas);
        Sentences.sentence("Promise 2", "UNKNOWN", CallsBoundaryTest::optionUnknown);
        Sentences.sentence("Promise 2", "OUTSIDE: both.", CallsBoundaryTest::optionOutside);
        Sentences.sentence("Promise 3", "OPTIONS of a CLASS are a set: which they were.",
            CallsBoundaryTest::setThatWas);
        Sentences.sentence("Promise 3", "UNKNOWN", CallsBoundaryTest::optionsUnknown);
        Sentences.sentence("Promise 3", "OUTSIDE.", CallsBoundaryTest::optionsOutside);
        Sentences.sentence("Promise 4", "DEMAND of a CLASS is n: all DEMANDS, added, then.",
            CallsBoundaryTest::demandsThen);
        Sentences.sentence("Promise 4", "UNKNOWN", CallsBoundaryTest::demandUnknown);
        Sentences.sentence("Promise 4", "OUTSIDE: n is not 0 to 9", CallsBoundaryTest::demandOutside);
        Sentences.sentence("Promise 4", "FULL: they would be more than 9.", CallsBoundaryTest::demandFull);
    }

    private static void optionThatWas() {
        CarOrders x = new CarOrders();
        due("option(3, 5, 5), at first", x.option(3, 5, 5), 12);
        due("option(3, 1, 1), the most that was", x.option(3, 1, 1), 55);
        due("option(3, 1, 5), the least that was", x.option(3, 1, 5), 11);
        due("option(3, 1, 5), the same again", x.option(3, 1, 5), 15);
        due("option(3, 2, 2)", x.option(3, 2, 2), 15);
        due("of(3, 0)", x.of(3, 0), 2);
        due("of(3, 1)", x.of(3, 1), 2);
        due("option(2, 1, 2): the others stay", x.option(2, 1, 2), 12);
        due("option(0, 1, 2): the others stay", x.option(0, 1, 2), 12);
    }

    private static void optionUnknown() {
        Sentences.dueBut("option", CarOrders::new, (x, n) -> x.option(n, 2, 3), 0, 3, UNKNOWN);
    }

    private static void optionOutside() {
        due("option(0, 0, 1): MAY too small", new CarOrders().option(0, 0, 1), OUTSIDE);
        due("option(0, 2, 1): MAY too large", new CarOrders().option(0, 2, 1), OUTSIDE);
        due("option(0, 5, 4): MAY too large", new CarOrders().option(0, 5, 4), OUTSIDE);
        due("option(0, 6, 5): MAY too large", new CarOrders().option(0, 6, 5), OUTSIDE);
        due("option(0, 1, 0): OF too small", new CarOrders().option(0, 1, 0), OUTSIDE);
        due("option(0, 1, 6): OF too large", new CarOrders().option(0, 1, 6), OUTSIDE);
        due("option(0, 0, 0): both too small", new CarOrders().option(0, 0, 0), OUTSIDE);
        due("option(0, -1, -1): both too small", new CarOrders().option(0, -1, -1), OUTSIDE);
        due("option(0, -2, -1): both too small", new CarOrders().option(0, -2, -1), OUTSIDE);
        due("option(0, 6, 6): both too large", new CarOrders().option(0, 6, 6), OUTSIDE);
        Sentences.dueBut("MAY", CarOrders::new, (x, n) -> x.option(0, n, 5), 1, 5, OUTSIDE);
        Sentences.dueBut("OF", CarOrders::new, (x, n) -> x.option(0, 1, n), 1, 5, OUTSIDE);
        Sentences.dueBut("MAY and OF", CarOrders::new, (x, n) -> x.option(0, n, n), 1, 5, OUTSIDE);
    }

    private static void setThatWas() {
        for (int cls = 0; cls < 5; cls++) {
            CarOrders x = new CarOrders();
            due("options(" + cls + ", 15), at first", x.options(cls, 15), 0);
            due("options(" + cls + ", 15), the same again", x.options(cls, 15), 15);
            due("options(" + cls + ", 0), all that were", x.options(cls, 0), 15);
            due("options(" + cls + ", 8), none that were", x.options(cls, 8), 0);
            due("told(" + cls + ", 0)", x.told(cls, 0), 8);
            due("told of the next", x.told((cls + 1) % 5, 0), 0);
        }
    }

    private static void optionsUnknown() {
        Sentences.dueBut("options", CarOrders::new, (x, n) -> x.options(n, 15), 0, 4, UNKNOWN);
    }

    private static void optionsOutside() {
        due("options(4, -1): too small", new CarOrders().options(4, -1), OUTSIDE);
        due("options(4, 16): too large", new CarOrders().options(4, 16), OUTSIDE);
        Sentences.dueBut("set", CarOrders::new, (x, n) -> x.options(4, n), 0, 15, OUTSIDE);
    }

    private static void demandsThen() {
        CarOrders x = new CarOrders();
        due("demand(0, 0), still none", x.demand(0, 0), 0);
        due("demand(0, 4)", x.demand(0, 4), 4);
        due("demand(4, 5), nine", x.demand(4, 5), 9);
        due("demand(4, 5), the same again", x.demand(4, 5), 9);
        due("demand(0, 3), one less", x.demand(0, 3), 8);
        due("demand(4, 0)", x.demand(4, 0), 3);
        due("demand(0, 9), in place of those that were", x.demand(0, 9), 9);
        due("demand(0, 0), none again", x.demand(0, 0), 0);
    }

    private static void demandUnknown() {
        Sentences.dueBut("demand", CarOrders::new, (x, n) -> x.demand(n, 0), 0, 4, UNKNOWN);
        Sentences.dueBut("demand", CarOrders::new, (x, n) -> x.demand(n, 9), 0, 4, UNKNOWN);
    }

    private static void demandOutside() {
        due("demand(0, -1): too small", new CarOrders().demand(0, -1), OUTSIDE);
        due("demand(0, 10): too large", new CarOrders().demand(0, 10), OUTSIDE);
        due("demand(0, -1), nine are told", with(0, 9).demand(0, -1), OUTSIDE);
        due("demand(1, HIGH): the sum would wrap around", with(0, 9).demand(1, HIGH), OUTSIDE);
        due("demand(1, HIGH - 8): the sum would wrap around", with(0, 9).demand(1, HIGH - 8), OUTSIDE);
        Sentences.dueBut("demand", CarOrders::new, (x, n) -> x.demand(4, n), 0, 9, OUTSIDE);
        Sentences.dueBut("demand", () -> with(0, 9), (x, n) -> x.demand(4, n), 0, 9, OUTSIDE);
    }

    private static void demandFull() {
        due("demand(1, 1): ten", with(0, 9).demand(1, 1), FULL);
        due("demand(1, 0): nine", with(0, 9).demand(1, 0), 9);
        due("demand(1, 2): ten", with(0, 8).demand(1, 2), FULL);
        due("demand(1, 1): nine", with(0, 8).demand(1, 1), 9);
        due("demand(1, 9): eighteen", with(0, 9).demand(1, 9), FULL);
        due("demand(0, 9): the old demand goes", with(0, 9).demand(0, 9), 9);
        due("demand(0, 8): the old demand goes", with(0, 5, 0, 1).demand(0, 8), 9);
        due("demand(0, 9): ten", with(0, 5, 0, 1).demand(0, 9), FULL);
        CarOrders x = with(0, 5, 0, 4);
        due("demand(1, 5)", x.demand(1, 5), FULL);
        due("told(1, 1), as it was", x.told(1, 1), 4);
        due("count(0), as it was", x.count(0), 9);
        due("demand(1, 3), fewer", x.demand(1, 3), 8);
    }

    // ---- promises 5, 6

    private static void tellings() {
        Sentences.sentence("Promise 5", "Of a CLASS: its OPTIONS (what = 0), DEMAND (1).", CallsBoundaryTest::told);
        Sentences.sentence("Promise 5", "UNKNOWN", CallsBoundaryTest::toldUnknown);
        Sentences.sentence("Promise 5", "OUTSIDE.", CallsBoundaryTest::toldOutside);
        Sentences.sentence("Promise 6", "Of an OPTION: MAY (what = 0), OF (1), WANTED (2), ROOM (3).",
            CallsBoundaryTest::of);
        Sentences.sentence("Promise 6", "UNKNOWN", CallsBoundaryTest::ofUnknown);
        Sentences.sentence("Promise 6", "OUTSIDE.", CallsBoundaryTest::ofOutside);
    }

    private static void told() {
        CarOrders x = with(15, 0, 0, 0, 0, 0, 0, 0, 1, 9);
        due("told(0, 0), all options", x.told(0, 0), 15);
        due("told(0, 1), no demand", x.told(0, 1), 0);
        due("told(4, 0)", x.told(4, 0), 1);
        due("told(4, 1), all there can be", x.told(4, 1), 9);
    }

    private static void toldUnknown() {
        for (int what = 0; what < 2; what++) {
            int of = what;
            Sentences.dueBut("told", () -> many(), (x, n) -> x.told(n, of), 0, 4, UNKNOWN);
        }
    }

    private static void toldOutside() {
        for (int cls = 0; cls < 5; cls++) {
            int of = cls;
            Sentences.dueBut("told of " + cls, () -> many(), (x, n) -> x.told(of, n), 0, 1, OUTSIDE);
        }
    }

    private static void of() {
        CarOrders x = with("2 of 5", 1, 4, 0, 5);
        due("of(0, 0)", x.of(0, 0), 2);
        due("of(0, 1)", x.of(0, 1), 5);
        due("of(0, 2)", x.of(0, 2), 4);
        due("of(0, 3)", x.of(0, 3), 4);
        CarOrders empty = with("3 of 5");
        due("of(0, 2), no cars", empty.of(0, 2), 0);
        due("of(0, 3), no cars", empty.of(0, 3), 0);
        CarOrders few = with("3 of 5", 1, 4);
        due("of(0, 2), fewer than OF", few.of(0, 2), 4);
        due("of(0, 3), fewer than OF", few.of(0, 3), 3);
        CarOrders last = with(0, 0, 0, 0, 0, 0, 0, 0, 8, 9);
        due("of(3, 2)", last.of(3, 2), 9);
        due("of(3, 3)", last.of(3, 3), 5);
    }

    private static void ofUnknown() {
        for (int what = 0; what < 4; what++) {
            int of = what;
            Sentences.dueBut("of", () -> many(), (x, n) -> x.of(n, of), 0, 3, UNKNOWN);
        }
    }

    private static void ofOutside() {
        for (int option = 0; option < 4; option++) {
            int which = option;
            Sentences.dueBut("of " + option, () -> many(), (x, n) -> x.of(which, n), 0, 3, OUTSIDE);
        }
    }

    // ---- promises 7, 8

    private static void fits() {
        String where = "Promise 7";
        Sentences.sentence(where, "FITS: how many (i = -1; 0, if none does)", CallsBoundaryTest::fitsHowMany);
        Sentences.sentence(where, "the CLASS at place i, from 0 on, of the first that FITS",
            CallsBoundaryTest::fitsFirst);
        Sentences.sentence(where, "NONE: none FITS", CallsBoundaryTest::fitsNone);
        Sentences.sentence(where, "or there is no such place.", CallsBoundaryTest::fitsNoPlace);
        Sentences.sentence(where, "OUTSIDE: i is below -1.", CallsBoundaryTest::fitsOutside);
    }

    private static void fitsHowMany() {
        due("fits(-1), none", with(1, 2).fits(-1), 0);
        due("fits(-1), none of many", with(1, 6, 0, 3).fits(-1), 0);
        due("fits(-1), one", with(1, 5, 0, 4).fits(-1), 1);
        due("fits(-1), one without cars", new CarOrders().fits(-1), 1);
        due("fits(-1), as many as can be", many().fits(-1), 22680);
    }

    private static void fitsFirst() {
        Sentences.dueRow("fits", many(), CarOrders::fits, "001122334");
        Sentences.dueRow("fits, the only one", with(1, 5, 0, 4), CarOrders::fits, "010101010");
        Sentences.dueRow("fits, one car", with(0, 0, 0, 0, 0, 0, 0, 0, 15, 1), CarOrders::fits, "4");
        Sentences.dueRow("fits, not the first order", with("1 of 3", 1, 3, 0, 4), CarOrders::fits, "0110110");
    }

    private static void fitsNone() {
        for (int i = 0; i < 2; i++) {
            due("fits(" + i + ")", with(1, 2).fits(i), NONE);
        }
        CarOrders x = with(1, 2, 0, 1);
        due("fits(0), one fits", x.fits(0), 0);
        x.option(0, 1, 3);
        for (int i = 0; i < 10; i++) {
            due("fits(" + i + "), none any more", x.fits(i), NONE);
        }
    }

    private static void fitsNoPlace() {
        Sentences.dueNoneFrom("fits, no cars", CarOrders::new, CarOrders::fits, 0);
        Sentences.dueNoneFrom("fits, three cars", () -> with(1, 2, 0, 1), CarOrders::fits, 3);
        Sentences.dueNoneFrom("fits, nine cars", () -> many(), CarOrders::fits, 9);
        CarOrders x = with(0, 9);
        due("fits(8), nine cars", x.fits(8), 0);
        x.demand(0, 8);
        due("fits(8), eight cars", x.fits(8), NONE);
        due("fits(7), eight cars", x.fits(7), 0);
    }

    private static void fitsOutside() {
        Sentences.dueOutsideBelowWhole("fits", CarOrders::new, CarOrders::fits);
        Sentences.dueOutsideBelowWhole("fits", () -> with(1, 2, 0, 1), CarOrders::fits);
        Sentences.dueOutsideBelowWhole("fits, none fits", () -> with(1, 2), CarOrders::fits);
    }

    private static void least() {
        String where = "Promise 8";
        Sentences.sentence(where, "LEAST (i = -1)", CallsBoundaryTest::leastWhole);
        Sentences.sentence(where, "the CLASS at place i, from 0 on, of the first ORDER with so few BREAKS",
            CallsBoundaryTest::leastFirst);
        Sentences.sentence(where, "NONE: there is no such place.", CallsBoundaryTest::leastNoPlace);
        Sentences.sentence(where, "OUTSIDE: i is below -1.", CallsBoundaryTest::leastOutside);
    }

    private static void leastWhole() {
        due("least(-1), no cars", new CarOrders().least(-1), 0);
        due("least(-1), one fits", with(1, 2, 0, 1).least(-1), 0);
        due("least(-1), none fits", with(1, 2).least(-1), 1);
        due("least(-1), the most that can be", with(15, 9).least(-1), 32);
    }

    private static void leastFirst() {
        Sentences.dueRow("least, none fits", with(1, 3, 0, 1), CarOrders::least, "0010");
        Sentences.dueRow("least, one order", with(15, 9), CarOrders::least, "000000000");
        Sentences.dueRow("least, the only one", with("1 of 3", 1, 2, 0, 2), CarOrders::least, "0110");
        Sentences.dueRow("least, all are as good", many(), CarOrders::least, "001122334");
    }

    private static void leastNoPlace() {
        Sentences.dueNoneFrom("least, no cars", CarOrders::new, CarOrders::least, 0);
        Sentences.dueNoneFrom("least, three cars", () -> with(1, 3), CarOrders::least, 3);
        Sentences.dueNoneFrom("least, nine cars", () -> with(1, 6, 0, 3), CarOrders::least, 9);
        CarOrders x = with(1, 9);
        due("least(8), nine cars", x.least(8), 0);
        x.demand(0, 8);
        due("least(8), eight cars", x.least(8), NONE);
        due("least(7), eight cars", x.least(7), 0);
    }

    private static void leastOutside() {
        Sentences.dueOutsideBelowWhole("least", CarOrders::new, CarOrders::least);
        Sentences.dueOutsideBelowWhole("least", () -> with(1, 3, 0, 1), CarOrders::least);
    }

    // ---- promises 9, 10

    private static void clashAndOrders() {
        Sentences.sentence("Promise 9", "The set of OPTIONS of which more are WANTED than there is ROOM.",
            CallsBoundaryTest::clash);
        String where = "Promise 10";
        Sentences.sentence(where, "Of all ORDERS: how many there are (what = 0)", CallsBoundaryTest::ordersHowMany);
        Sentences.sentence(where, "the most BREAKS that any has (1)", CallsBoundaryTest::ordersMost);
        Sentences.sentence(where, "how many have LEAST (2).", CallsBoundaryTest::ordersLeast);
        Sentences.sentence(where, "OUTSIDE.", CallsBoundaryTest::ordersOutside);
    }

    private static void clash() {
        due("clash(), no cars", new CarOrders().clash(), 0);
        due("clash(), just as many as room", with(15, 5, 0, 4).clash(), 0);
        due("clash(), one more than room", with(15, 6, 0, 3).clash(), 15);
        for (int option = 0; option < 4; option++) {
            due("clash(), option " + option, with(1 << option, 6, 0, 3).clash(), 1 << option);
        }
        due("clash(), one car", with(15, 1).clash(), 0);
        due("clash(), fewer cars than OF, more than MAY", with("1 of 5", 1, 2).clash(), 1);
        due("clash(), fewer cars than OF, as many as MAY", with("2 of 5", 1, 2).clash(), 0);
        due("clash(), MAY is OF", with("5 of 5", 1, 9).clash(), 0);
        due("clash(), none fits, though none has more", with(1, 2, 2, 0, 3, 1).clash(), 1);
        CarOrders apart = with("1 of 3", 1, 2, 2, 1, 0, 2);
        due("clash(), all can do", apart.clash(), 0);
    }

    private static void ordersHowMany() {
        due("orders(0), no cars", new CarOrders().orders(0), 1);
        due("orders(0), one class", with(15, 9).orders(0), 1);
        due("orders(0), one other car", with(0, 8, 0, 1).orders(0), 9);
        due("orders(0), each another", with(0, 1, 0, 1, 0, 1, 0, 1, 0, 1).orders(0), 120);
        due("orders(0), as many as can be", many().orders(0), 22680);
        due("orders(0), three of each", with(0, 3, 0, 0, 0, 3, 0, 0, 0, 3).orders(0), 1680);
    }

    private static void ordersMost() {
        due("orders(1), no cars", new CarOrders().orders(1), 0);
        due("orders(1), no option", many().orders(1), 0);
        due("orders(1), the most that can be", with(15, 9).orders(1), 32);
        due("orders(1), all fit", with("2 of 2", 1, 9).orders(1), 0);
        due("orders(1), just one break", with("4 of 5", 1, 5, 0, 4).orders(1), 1);
        due("orders(1), the first order has fewer", with("1 of 3", 1, 2, 0, 2).orders(1), 2);
    }

    private static void ordersLeast() {
        due("orders(2), no cars", new CarOrders().orders(2), 1);
        due("orders(2), one", with(1, 5, 0, 4).orders(2), 1);
        due("orders(2), all", many().orders(2), 22680);
        due("orders(2), none fits", with(1, 3, 0, 1).orders(2), 2);
        due("orders(2), one order", with(15, 9).orders(2), 1);
        due("orders(2), those that fit", with(1, 2, 0, 3).orders(2), 6);
        due("orders(2), one, behind worse ones", with("1 of 3", 1, 2, 0, 2).orders(2), 1);
    }

    private static void ordersOutside() {
        Sentences.dueBut("orders", CarOrders::new, CarOrders::orders, 0, 2, OUTSIDE);
        Sentences.dueBut("orders", () -> with(1, 3, 0, 1), CarOrders::orders, 0, 2, OUTSIDE);
    }

    // ---- promise 11

    private static void at() {
        String where = "Promise 11";
        Sentences.sentence(where,
            "CLASSES (a set, bits 0 to 4) that are at place i, from 0 on, of some ORDER that FITS",
            CallsBoundaryTest::atSets);
        Sentences.sentence(where, "NONE: none FITS", CallsBoundaryTest::atNone);
        Sentences.sentence(where, "or there is no such place", CallsBoundaryTest::atNoPlace);
        Sentences.sentence(where, "(i below 0, too).", CallsBoundaryTest::atBelow);
    }

    private static void atSets() {
        for (int i = 0; i < 9; i++) {
            due("at(" + i + "), all", many().at(i), 31);
            due("at(" + i + "), the last class", with(0, 0, 0, 0, 0, 0, 0, 0, 0, 9).at(i), 16);
            due("at(" + i + "), one order fits", with(1, 5, 0, 4).at(i), i % 2 == 0 ? 1 : 2);
        }
        int[] sets = {1, 6, 6, 1, 6, 6, 1};
        for (int i = 0; i < 7; i++) {
            due("at(" + i + "), not all", with("1 of 3", 1, 3, 0, 3, 0, 1).at(i), sets[i]);
        }
    }

    private static void atNone() {
        for (int i = -1; i < 10; i++) {
            due("at(" + i + ")", with(1, 6, 0, 3).at(i), NONE);
        }
        due("at(0)", with(1, 2).at(0), NONE);
    }

    private static void atNoPlace() {
        Sentences.dueNoneFrom("at, no cars", CarOrders::new, CarOrders::at, 0);
        Sentences.dueNoneFrom("at, three cars", () -> with(1, 2, 0, 1), CarOrders::at, 3);
        Sentences.dueNoneFrom("at, nine cars", () -> many(), CarOrders::at, 9);
        CarOrders x = with(0, 9);
        due("at(8), nine cars", x.at(8), 1);
        x.demand(0, 8);
        due("at(8), eight cars", x.at(8), NONE);
        due("at(7), eight cars", x.at(7), 1);
    }

    private static void atBelow() {
        for (int i : new int[] {-1, -2, -3, -9, -10, -257, -65537, Sentences.LOW + 1, Sentences.LOW}) {
            due("at(" + i + "), no cars", new CarOrders().at(i), NONE);
            due("at(" + i + "), three cars", with(1, 2, 0, 1).at(i), NONE);
            due("at(" + i + "), none fits", with(1, 2).at(i), NONE);
        }
    }

    // ---- promises 12, 13

    private static void rule() {
        String where = "Promise 12";
        Sentences.sentence(where, "BREAKS of the ORDER that THE RULE takes (i = -1)", CallsBoundaryTest::ruleBreaks);
        Sentences.sentence(where, "the CLASS at its place i, from 0 on", CallsBoundaryTest::rulePlaces);
        Sentences.sentence(where, "NONE: there is no such place.", CallsBoundaryTest::ruleNoPlace);
        Sentences.sentence(where, "OUTSIDE: i is below -1.", CallsBoundaryTest::ruleOutside);
    }

    private static void ruleBreaks() {
        due("rule(-1), no cars", new CarOrders().rule(-1), 0);
        due("rule(-1), none", with(1, 5, 0, 4).rule(-1), 0);
        due("rule(-1), one", with(1, 2).rule(-1), 1);
        due("rule(-1), the most that can be", with(15, 9).rule(-1), 32);
        due("rule(-1), more than least", with("1 of 3", 1, 2, 0, 2).rule(-1), 1);
    }

    private static void rulePlaces() {
        Sentences.dueRow("rule, one car", with(0, 0, 0, 0, 0, 0, 0, 0, 0, 1), CarOrders::rule, "4");
        Sentences.dueRow("rule, nine cars", with(1, 5, 0, 4), CarOrders::rule, "010101010");
        Sentences.dueRow("rule, nine cars of one class", with(15, 9), CarOrders::rule, "000000000");
        Sentences.dueRow("rule, none fits", with(1, 3, 0, 1), CarOrders::rule, "0100");
    }

    private static void ruleNoPlace() {
        Sentences.dueNoneFrom("rule, no cars", CarOrders::new, CarOrders::rule, 0);
        Sentences.dueNoneFrom("rule, three cars", () -> with(1, 3), CarOrders::rule, 3);
        Sentences.dueNoneFrom("rule, nine cars", () -> many(), CarOrders::rule, 9);
        CarOrders x = with(1, 9);
        due("rule(8), nine cars", x.rule(8), 0);
        x.demand(0, 8);
        due("rule(8), eight cars", x.rule(8), NONE);
        due("rule(7), eight cars", x.rule(7), 0);
    }

    private static void ruleOutside() {
        Sentences.dueOutsideBelowWhole("rule", CarOrders::new, CarOrders::rule);
        Sentences.dueOutsideBelowWhole("rule", () -> with(1, 3, 0, 1), CarOrders::rule);
    }

    private static void near() {
        String where = "Promise 13";
        Sentences.sentence(where, "NEAR (i = -1)", CallsBoundaryTest::nearWhole);
        Sentences.sentence(where, "the CLASS at place i, from 0 on, of the first ORDER that FITS with so little OFF",
            CallsBoundaryTest::nearFirst);
        Sentences.sentence(where, "NONE: none FITS", CallsBoundaryTest::nearNone);
        Sentences.sentence(where, "or there is no such place.", CallsBoundaryTest::nearNoPlace);
        Sentences.sentence(where, "OUTSIDE: i is below -1.", CallsBoundaryTest::nearOutside);
    }

    private static void nearWhole() {
        due("near(-1), no cars", new CarOrders().near(-1), 0);
        due("near(-1), the rule's fits", with(1, 5, 0, 4).near(-1), 0);
        due("near(-1), all fit", many().near(-1), 0);
        due("near(-1), one off", with("1 of 3", 1, 2, 0, 2).near(-1), 1);
        due("near(-1), nine that all break nothing", with("5 of 5", 1, 9).near(-1), 0);
    }

    private static void nearFirst() {
        Sentences.dueRow("near, not the first that fits", with(0, 3, 1, 2), CarOrders::near, "10100");
        Sentences.dueRow("near, the only one that fits", with("1 of 3", 1, 2, 0, 2), CarOrders::near, "0110");
        Sentences.dueRow("near, the first of four", with("1 of 3", 1, 2, 0, 2, 0, 1), CarOrders::near, "01102");
        Sentences.dueRow("near, nine cars", many(), CarOrders::near, "012301234");
    }

    private static void nearNone() {
        for (int i = -1; i < 10; i++) {
            due("near(" + i + ")", with(1, 6, 0, 3).near(i), NONE);
        }
        CarOrders x = with(1, 2, 0, 1);
        due("near(-1), one fits", x.near(-1), 0);
        x.demand(1, 0);
        due("near(-1), none any more", x.near(-1), NONE);
        due("near(0), none any more", x.near(0), NONE);
    }

    private static void nearNoPlace() {
        Sentences.dueNoneFrom("near, no cars", CarOrders::new, CarOrders::near, 0);
        Sentences.dueNoneFrom("near, three cars", () -> with(1, 2, 0, 1), CarOrders::near, 3);
        Sentences.dueNoneFrom("near, nine cars", () -> with(1, 5, 0, 4), CarOrders::near, 9);
        CarOrders x = with(0, 9);
        due("near(8), nine cars", x.near(8), 0);
        x.demand(0, 8);
        due("near(8), eight cars", x.near(8), NONE);
        due("near(7), eight cars", x.near(7), 0);
    }

    private static void nearOutside() {
        Sentences.dueOutsideBelowWhole("near", CarOrders::new, CarOrders::near);
        Sentences.dueOutsideBelowWhole("near", () -> with(1, 2, 0, 1), CarOrders::near);
        Sentences.dueOutsideBelowWhole("near, none fits", () -> with(1, 2), CarOrders::near);
    }

    // ---- promises 14, 15

    private static void sayAndWipe() {
        Sentences.sentence("Promise 14", "A sign more on THE PAD: how many.", CallsBoundaryTest::sayHowMany);
        Sentences.sentence("Promise 14", "OUTSIDE: it is not 48 to 52 (0 to 4), nor 63 (?)",
            CallsBoundaryTest::sayOutside);
        Sentences.sentence("Promise 14", "FULL: there are 9.", CallsBoundaryTest::sayFull);
        Sentences.sentence("Promise 15", "THE PAD is empty: how many signs it had.", CallsBoundaryTest::wipe);
    }

    private static void sayHowMany() {
        CarOrders x = new CarOrders();
        String signs = "04?4?0123";
        for (int n = 0; n < 9; n++) {
            due("say(" + signs.charAt(n) + ")", x.say(signs.charAt(n)), n + 1);
        }
        due("count(2)", x.count(2), 9);
    }

    private static void sayOutside() {
        for (int sign = -140; sign < 300; sign++) {
            boolean good = sign >= 48 && sign <= 52 || sign == 63;
            due("say(" + sign + ")", new CarOrders().say(sign), good ? 1 : OUTSIDE);
        }
        for (int turn : new int[] {256, -256, 65536, -65536, Sentences.LOW}) {
            for (int sign : new int[] {48, 52, 63}) {
                due("say(" + (sign + turn) + ")", new CarOrders().say(sign + turn), OUTSIDE);
            }
        }
        for (int sign : new int[] {Sentences.LOW, Sentences.LOW + 1, HIGH - 1, HIGH}) {
            due("say(" + sign + ")", new CarOrders().say(sign), OUTSIDE);
        }
    }

    private static void sayFull() {
        CarOrders x = write(with(1, 9), "000000000");
        due("row(0)", x.row(0), 8);
        for (char sign : "01234?".toCharArray()) {
            due("say(" + sign + ")", x.say(sign), FULL);
        }
        due("row(0), as it was", x.row(0), 8);
        due("count(3), as it was", x.count(3), 1);
        due("wipe()", x.wipe(), 9);
        due("say(52), no longer full", x.say(52), 1);
        CarOrders eight = write(new CarOrders(), "????????");
        due("say(63), the ninth", eight.say(63), 9);
        due("say(63), the tenth", eight.say(63), FULL);
    }

    private static void wipe() {
        for (int n = 0; n <= 9; n++) {
            CarOrders x = write(with(1, 3, 0, 2), "?".repeat(n));
            x.image(0);
            due("wipe(), " + n + " signs", x.wipe(), n);
            due("count(2)", x.count(2), 0);
            due("wipe(), again", x.wipe(), 0);
            due("row(0), no ? any more", x.row(0), 0);
            due("say(48)", x.say(48), 1);
            due("row(0)", x.row(0), 0);
            due("count(0), the rest stays", x.count(0), 5);
            due("count(4), the rest stays", x.count(4), 1);
        }
        CarOrders x = write(with(0, 2), "00");
        due("filled(-1)", x.filled(-1), 1);
        x.wipe();
        due("filled(-1), wiped", x.filled(-1), 0);
    }

    // ---- promise 16

    private static void row() {
        String where = "Promise 16";
        Sentences.sentence(where, "BREAKS of the ROW on THE PAD (what = 0)", CallsBoundaryTest::rowBreaks);
        Sentences.sentence(where,
            "the least place, from 0 on, at which the last CAR of a BREAK stands (1; NONE: it has none)",
            CallsBoundaryTest::rowFirstBreak);
        Sentences.sentence(where, "OFF, if it is an ORDER (2; NONE: it is none).", CallsBoundaryTest::rowOff);
        Sentences.sentence(where, "OUTSIDE", CallsBoundaryTest::rowOutside);
        Sentences.sentence(where, "FAULT: there is a ?.", CallsBoundaryTest::rowFault);
    }

    private static void dueRowOn(CarOrders x, String pad, int what, int want) {
        write(x, pad);
        due("row(" + what + ") of " + pad, x.row(what), want);
    }

    private static void rowBreaks() {
        CarOrders x = with(15, 0, 0, 0, 0, 0, 0, 0, 1, 0);
        dueRowOn(x, "", 0, 0);
        dueRowOn(x, "0", 0, 0);
        dueRowOn(x, "00", 0, 4);
        dueRowOn(x, "000000000", 0, 32);
        dueRowOn(x, "111111111", 0, 0);
        dueRowOn(x, "111111144", 0, 1);
        dueRowOn(x, "441111111", 0, 1);
        CarOrders order = with(1, 1);
        dueRowOn(order, "000", 0, 2);
    }

    private static void rowFirstBreak() {
        CarOrders x = with(1, 0);
        dueRowOn(x, "", 1, NONE);
        dueRowOn(x, "0", 1, NONE);
        dueRowOn(x, "010101010", 1, NONE);
        dueRowOn(x, "00", 1, 1);
        dueRowOn(x, "000000000", 1, 1);
        dueRowOn(x, "111111100", 1, 8);
        dueRowOn(x, "010010011", 1, 3);
        x.option(0, 1, 5);
        dueRowOn(x, "0000", 1, NONE);
        dueRowOn(x, "00000", 1, 4);
        dueRowOn(x, "001111111", 1, 4);
        CarOrders two = with("4 of 5", 3, 0, 1, 0);
        two.option(1, 1, 3);
        dueRowOn(two, "00000", 1, 2);
        dueRowOn(two, "11111", 1, 4);
        dueRowOn(two, "11110", 1, 4);
    }

    private static void rowOff() {
        dueRowOn(new CarOrders(), "", 2, 0);
        dueRowOn(new CarOrders(), "0", 2, NONE);
        CarOrders x = with(0, 3, 1, 2);
        dueRowOn(x, "", 2, NONE);
        dueRowOn(x, "10100", 2, 0);
        dueRowOn(x, "11000", 2, 1);
        dueRowOn(x, "1010", 2, NONE);
        dueRowOn(x, "101000", 2, NONE);
        dueRowOn(x, "10101", 2, NONE);
        dueRowOn(x, "10104", 2, NONE);
        dueRowOn(x, "000001111", 2, NONE);
        CarOrders nine = with(15, 9);
        dueRowOn(nine, "000000000", 2, 0);
        dueRowOn(nine, "000000001", 2, NONE);
    }

    private static void rowOutside() {
        Sentences.dueBut("row", CarOrders::new, CarOrders::row, 0, 2, OUTSIDE);
        Sentences.dueBut("row", () -> write(with(1, 0), "000"), CarOrders::row, 0, 2, OUTSIDE);
    }

    private static void rowFault() {
        String[] pads = {"?", "?00000000", "00000000?", "0000?0000", "?????????"};
        for (String pad : pads) {
            for (int what = 0; what < 3; what++) {
                dueRowOn(with(1, 9), pad, what, FAULT);
            }
        }
        CarOrders x = write(new CarOrders(), "?");
        due("row(0)", x.row(0), FAULT);
        dueRowOn(x, "0", 0, 0);
    }

    // ---- promise 17

    private static void filled() {
        String where = "Promise 17";
        Sentences.sentence(where, "FILLED: how many (i = -1; 0, if there is none)", CallsBoundaryTest::filledHowMany);
        Sentences.sentence(where, "the CLASS at place i, from 0 on, of the first", CallsBoundaryTest::filledFirst);
        Sentences.sentence(where, "NONE: there is none", CallsBoundaryTest::filledNone);
        Sentences.sentence(where, "or no such place.", CallsBoundaryTest::filledNoPlace);
        Sentences.sentence(where, "OUTSIDE: i is below -1.", CallsBoundaryTest::filledOutside);
    }

    private static void filledHowMany() {
        due("filled(-1), no cars, no signs", new CarOrders().filled(-1), 1);
        due("filled(-1), no cars, a sign", write(new CarOrders(), "?").filled(-1), 0);
        due("filled(-1), cars, no signs", with(0, 1).filled(-1), 0);
        due("filled(-1), none fits", write(with(1, 2), "??").filled(-1), 0);
        due("filled(-1), one too few", write(many(), "????????").filled(-1), 0);
        due("filled(-1), as many as can be", write(many(), "?????????").filled(-1), 22680);
        due("filled(-1), all told", write(many(), "433221100").filled(-1), 1);
        due("filled(-1), one told wrong", write(many(), "433221101").filled(-1), 0);
        due("filled(-1), told more than there are", write(many(), "44???????").filled(-1), 0);
    }

    private static void filledFirst() {
        Sentences.dueRow("filled", write(many(), "?????????"), CarOrders::filled, "001122334");
        Sentences.dueRow("filled", write(many(), "4???????0"), CarOrders::filled, "401122330");
        Sentences.dueRow("filled", write(many(), "433221100"), CarOrders::filled, "433221100");
        Sentences.dueRow("filled", write(with(1, 2, 0, 3), "1????"), CarOrders::filled, "10101");
        Sentences.dueRow("filled", write(with(0, 0, 0, 0, 0, 0, 0, 0, 0, 1), "?"), CarOrders::filled, "4");
    }

    private static void filledNone() {
        for (int i = 0; i < 10; i++) {
            due("filled(" + i + "), none fits", write(with(1, 2), "??").filled(i), NONE);
            due("filled(" + i + "), a sign too few", write(with(0, 3), "??").filled(i), NONE);
            due("filled(" + i + "), a sign too many", write(with(0, 3), "????").filled(i), NONE);
            due("filled(" + i + "), another class", write(with(0, 3), "??1").filled(i), NONE);
        }
        CarOrders x = write(with(0, 2), "0?");
        due("filled(1)", x.filled(1), 0);
        x.say('?');
        due("filled(1), none any more", x.filled(1), NONE);
    }

    private static void filledNoPlace() {
        Sentences.dueNoneFrom("filled, no cars", CarOrders::new, CarOrders::filled, 0);
        Sentences.dueNoneFrom("filled, three cars", () -> write(with(1, 2, 0, 1), "???"), CarOrders::filled, 3);
        Sentences.dueNoneFrom("filled, nine cars", () -> write(many(), "4????????"), CarOrders::filled, 9);
    }

    private static void filledOutside() {
        Sentences.dueOutsideBelowWhole("filled", CarOrders::new, CarOrders::filled);
        Sentences.dueOutsideBelowWhole("filled", () -> write(with(0, 3), "???"), CarOrders::filled);
        Sentences.dueOutsideBelowWhole("filled, none", () -> write(with(1, 2), "??"), CarOrders::filled);
    }

    // ---- promise 18

    private static void lane() {
        String where = "Promise 18";
        Sentences.sentence(where, "PUT RIGHT by a LANE of k places.", CallsBoundaryTest::lanePlaces);
        Sentences.sentence(where, "OUTSIDE", CallsBoundaryTest::laneOutside);
        Sentences.sentence(where, "FAULT: there is a ? on THE PAD.", CallsBoundaryTest::laneFault);
    }

    private static void lanePlaces() {
        String[] pads = {"", "0", "00", "0011", "00011", "000111", "000011111", "000000000"};
        int[][] dues = {{0, 0, 0}, {0, 0, 0}, {1, 1, 1}, {1, 0, 0}, {2, 1, 0}, {2, 1, 0}, {3, 2, 1}, {8, 8, 8}};
        for (int n = 0; n < pads.length; n++) {
            CarOrders x = write(with(1, 0), pads[n]);
            for (int k = 2; k >= 0; k--) {
                due("lane(" + k + ") of " + pads[n], x.lane(k), dues[n][k]);
            }
            due("row(0) of " + pads[n] + ": the pad stays", x.row(0), dues[n][0]);
            due("count(2) of " + pads[n] + ": the pad stays", x.count(2), pads[n].length());
        }
        CarOrders x = write(with(1, 5, 0, 4), "00");
        due("rule(-1), nine cars", x.rule(-1), 0);
        due("lane(0), two cars, behind nine", x.lane(0), 1);
        due("fits(-1), nine cars", x.fits(-1), 1);
        due("lane(2), two cars, behind nine", x.lane(2), 1);
    }

    private static void laneOutside() {
        Sentences.dueBut("lane", CarOrders::new, CarOrders::lane, 0, 2, OUTSIDE);
        Sentences.dueBut("lane", () -> write(with(1, 0), "00011"), CarOrders::lane, 0, 2, OUTSIDE);
    }

    private static void laneFault() {
        String[] pads = {"?", "?00000000", "00000000?", "0000?0000", "?????????"};
        for (String pad : pads) {
            for (int k = 0; k <= 2; k++) {
                due("lane(" + k + ") of " + pad, write(with(1, 9), pad).lane(k), FAULT);
            }
        }
        CarOrders x = write(new CarOrders(), "?");
        due("lane(1)", x.lane(1), FAULT);
        x.wipe();
        due("lane(1), wiped", x.lane(1), 0);
    }

    // ---- promises 19, 20

    private static void images() {
        String kept = "Promise 19";
        Sentences.sentence(kept, "All but THE PAD and IMAGES is kept in an IMAGE (0, 1)",
            CallsBoundaryTest::imageKeeps);
        Sentences.sentence(kept, "in place of what was kept there: 1.", CallsBoundaryTest::imageInPlace);
        Sentences.sentence(kept, "OUTSIDE.", CallsBoundaryTest::imageOutside);
        String restored = "Promise 20";
        Sentences.sentence(restored, "All but THE PAD and IMAGES is as it was when it was kept",
            CallsBoundaryTest::restoreAll);
        Sentences.sentence(restored, "the IMAGE stays: 1.", CallsBoundaryTest::imageStays);
        Sentences.sentence(restored, "OUTSIDE", CallsBoundaryTest::restoreOutside);
        Sentences.sentence(restored, "STATE: nothing was kept in it.", CallsBoundaryTest::restoreState);
    }

    /** Each OPTION and each CLASS is told something of its own. */
    private static CarOrders rich() {
        CarOrders x = with(1, 1, 2, 2, 4, 0, 8, 3, 15, 3);
        for (int option = 0; option < 4; option++) {
            x.option(option, 1 + option % 2, 2 + option);
        }
        return x;
    }

    /** All that rich tells is told otherwise. */
    private static void changeAll(CarOrders x) {
        for (int option = 0; option < 4; option++) {
            x.option(option, 3, 5 - option % 2);
        }
        for (int cls = 0; cls < 5; cls++) {
            x.options(cls, 7 - cls);
            x.demand(cls, 0);
        }
        x.demand(2, 4);
    }

    private static void dueRich(String when, CarOrders x) {
        int[] sets = {1, 2, 4, 8, 15};
        int[] demands = {1, 2, 0, 3, 3};
        int[] wanted = {4, 5, 3, 6};
        int[] rooms = {5, 6, 3, 4};
        for (int cls = 0; cls < 5; cls++) {
            due("told(" + cls + ", 0), " + when, x.told(cls, 0), sets[cls]);
            due("told(" + cls + ", 1), " + when, x.told(cls, 1), demands[cls]);
        }
        for (int option = 0; option < 4; option++) {
            due("of(" + option + ", 0), " + when, x.of(option, 0), 1 + option % 2);
            due("of(" + option + ", 1), " + when, x.of(option, 1), 2 + option);
            due("of(" + option + ", 2), " + when, x.of(option, 2), wanted[option]);
            due("of(" + option + ", 3), " + when, x.of(option, 3), rooms[option]);
        }
        due("orders(0), " + when, x.orders(0), 5040);
        due("count(0), " + when, x.count(0), 9);
        due("count(1), " + when, x.count(1), 4);
    }

    private static void imageKeeps() {
        for (int k = 0; k < 2; k++) {
            CarOrders x = rich();
            due("image(" + k + ")", x.image(k), 1);
            dueRich("kept", x);
            changeAll(x);
            x.restore(k);
            dueRich("restored", x);
            CarOrders empty = new CarOrders();
            due("image(" + k + "), a new object", empty.image(k), 1);
            changeAll(empty);
            empty.restore(k);
            due("count(0), a new object again", empty.count(0), 0);
            due("of(0, 1), a new object again", empty.of(0, 1), 2);
            due("told(2, 0), a new object again", empty.told(2, 0), 0);
            CarOrders padded = write(rich(), "01?");
            padded.image(k);
            due("count(2): the pad is not kept, but stays", padded.count(2), 3);
        }
        CarOrders both = rich();
        both.image(0);
        changeAll(both);
        both.image(1);
        both.restore(0);
        dueRich("from the first of two", both);
        both.restore(1);
        due("told(2, 1), from the second of two", both.told(2, 1), 4);
    }

    private static void imageInPlace() {
        for (int k = 0; k < 2; k++) {
            CarOrders x = new CarOrders();
            x.demand(0, 9);
            due("image(" + k + ")", x.image(k), 1);
            x.demand(0, 8);
            due("image(" + (1 - k) + ")", x.image(1 - k), 1);
            x.demand(0, 7);
            due("image(" + k + "), in place of nine", x.image(k), 1);
            x.demand(0, 0);
            x.restore(k);
            due("told(0, 1), kept again", x.told(0, 1), 7);
            x.restore(1 - k);
            due("told(0, 1), the other", x.told(0, 1), 8);
        }
    }

    private static void imageOutside() {
        Sentences.dueBut("image", CarOrders::new, CarOrders::image, 0, 1, OUTSIDE);
        Sentences.dueBut("which are kept behind image", CarOrders::new, (x, n) -> x.image(n) * 100 + x.count(4), 0, 1,
            OUTSIDE * 100);
    }

    private static void restoreAll() {
        for (int k = 0; k < 2; k++) {
            CarOrders x = rich();
            x.image(k);
            changeAll(x);
            due("fits(-1), changed", x.fits(-1), 1);
            write(x, "2222");
            due("count(3), changed", x.count(3), 1);
            due("image(" + (1 - k) + ")", x.image(1 - k), 1);
            due("restore(" + k + ")", x.restore(k), 1);
            dueRich("restored", x);
            due("fits(-1): more are wanted than there is room", x.fits(-1), 0);
            due("count(2): the pad stays", x.count(2), 4);
            due("count(3): the pad is no order now", x.count(3), 0);
            due("row(0): the pad stays", x.row(0), 1);
            due("count(4): both images stay", x.count(4), 3);
            due("restore(" + (1 - k) + "): it stays as it was kept", x.restore(1 - k), 1);
            due("told(2, 1)", x.told(2, 1), 4);
            restoredOptionBreaks(k);
        }
    }

    /** MAY and OF that are restored are those by which BREAKS are counted. */
    private static void restoredOptionBreaks(int k) {
        CarOrders x = write(with("1 of 2", 1, 2, 0, 1), "010");
        x.image(k);
        x.option(0, 1, 3);
        due("row(0), 1 of 3", x.row(0), 1);
        due("fits(-1), 1 of 3", x.fits(-1), 0);
        x.image(1 - k);
        x.restore(k);
        due("row(0), 1 of 2 again", x.row(0), 0);
        due("fits(-1), 1 of 2 again", x.fits(-1), 1);
        due("filled(-1), 1 of 2 again", x.filled(-1), 1);
        due("orders(1), 1 of 2 again", x.orders(1), 1);
        x.restore(1 - k);
        due("row(0), 1 of 3 again", x.row(0), 1);
        due("fits(-1), 1 of 3 again", x.fits(-1), 0);
        due("least(-1), 1 of 3 again", x.least(-1), 1);
    }

    private static void imageStays() {
        CarOrders x = rich();
        x.image(1);
        for (int times = 0; times < 5; times++) {
            changeAll(x);
            due("restore(1), time " + times, x.restore(1), 1);
            due("count(4), time " + times, x.count(4), 2);
            dueRich("time " + times, x);
        }
        due("restore(0): only the other is kept", x.restore(0), STATE);
    }

    private static void restoreOutside() {
        Sentences.dueBut("restore, nothing kept", CarOrders::new, CarOrders::restore, 0, 1, OUTSIDE);
        Sentences.dueBut("restore, both kept", () -> {
            CarOrders x = new CarOrders();
            x.image(0);
            x.image(1);
            return x;
        }, CarOrders::restore, 0, 1, OUTSIDE);
    }

    private static void restoreState() {
        for (int k = 0; k < 2; k++) {
            CarOrders x = rich();
            due("restore(" + k + "), nothing kept", x.restore(k), STATE);
            dueRich("as it was", x);
            x.image(1 - k);
            due("restore(" + k + "), only the other kept", x.restore(k), STATE);
            x.image(2);
            due("restore(" + k + "), behind a refused image", x.restore(k), STATE);
            x.image(k);
            due("restore(" + k + "), kept", x.restore(k), 1);
        }
    }

    // ---- promise 21

    private static void count() {
        String where = "Promise 21";
        Sentences.sentence(where, "All DEMANDS, added (0)", CallsBoundaryTest::countDemands);
        Sentences.sentence(where, "CLASSES with a DEMAND (1)", CallsBoundaryTest::countClasses);
        Sentences.sentence(where, "signs of THE PAD (2)", CallsBoundaryTest::countSigns);
        Sentences.sentence(where, "whether THE PAD is an ORDER (3: 1, 0)", CallsBoundaryTest::countOrder);
        Sentences.sentence(where, "which IMAGES are kept, a set: bits 0, 1 (4).", CallsBoundaryTest::countImages);
        Sentences.sentence(where, "OUTSIDE.", CallsBoundaryTest::countOutside);
    }

    private static void countDemands() {
        due("count(0), none", new CarOrders().count(0), 0);
        due("count(0), one", with(0, 0, 0, 0, 0, 0, 0, 0, 0, 1).count(0), 1);
        due("count(0), nine of one class", with(0, 9).count(0), 9);
        due("count(0), nine of all classes", many().count(0), 9);
        CarOrders x = with(0, 9);
        x.demand(1, 1);
        due("count(0), a tenth was refused", x.count(0), 9);
    }

    private static void countClasses() {
        due("count(1), none", new CarOrders().count(1), 0);
        due("count(1), options without a demand", with(15, 0, 3, 0).count(1), 0);
        due("count(1), one", with(0, 9).count(1), 1);
        due("count(1), the last", with(0, 0, 0, 0, 0, 0, 0, 0, 0, 1).count(1), 1);
        due("count(1), all", with(0, 1, 0, 1, 0, 1, 0, 1, 0, 1).count(1), 5);
        CarOrders x = with(0, 1);
        x.demand(0, 0);
        due("count(1), none any more", x.count(1), 0);
    }

    private static void countSigns() {
        CarOrders x = new CarOrders();
        for (int n = 0; n < 9; n++) {
            due("count(2)", x.count(2), n);
            x.say(n % 2 == 0 ? '?' : '4');
        }
        due("count(2), nine", x.count(2), 9);
        x.say('0');
        due("count(2), a tenth was refused", x.count(2), 9);
        x.wipe();
        due("count(2), wiped", x.count(2), 0);
        x.say(53);
        due("count(2), a wrong sign was refused", x.count(2), 0);
    }

    private static void dueCountOrder(CarOrders x, String pad, int want) {
        write(x, pad);
        due("count(3) of " + pad, x.count(3), want);
    }

    private static void countOrder() {
        dueCountOrder(new CarOrders(), "", 1);
        dueCountOrder(new CarOrders(), "0", 0);
        dueCountOrder(new CarOrders(), "?", 0);
        dueCountOrder(with(0, 1), "", 0);
        dueCountOrder(with(0, 1), "0", 1);
        dueCountOrder(with(0, 1), "?", 0);
        dueCountOrder(with(0, 1), "1", 0);
        dueCountOrder(with(1, 9), "000000000", 1);
        dueCountOrder(with(1, 9), "00000000", 0);
        dueCountOrder(with(1, 9), "00000000?", 0);
        dueCountOrder(with(1, 9), "000000004", 0);
        dueCountOrder(with(1, 8), "000000000", 0);
        dueCountOrder(with(0, 2, 0, 1), "010", 1);
        dueCountOrder(with(0, 2, 0, 1), "011", 0);
        dueCountOrder(many(), "433221100", 1);
        dueCountOrder(many(), "443322110", 0);
    }

    private static void countImages() {
        CarOrders x = new CarOrders();
        due("count(4), none", x.count(4), 0);
        x.image(2);
        x.image(-1);
        due("count(4), refused", x.count(4), 0);
        x.image(0);
        due("count(4), the first", x.count(4), 1);
        x.image(0);
        due("count(4), the first again", x.count(4), 1);
        x.image(1);
        due("count(4), both", x.count(4), 3);
        CarOrders y = new CarOrders();
        y.image(1);
        due("count(4), the second", y.count(4), 2);
        y.restore(1);
        due("count(4), restored", y.count(4), 2);
    }

    private static void countOutside() {
        Sentences.dueBut("count", CarOrders::new, CarOrders::count, 0, 4, OUTSIDE);
        Sentences.dueBut("count", () -> write(rich(), "0?"), CarOrders::count, 0, 4, OUTSIDE);
    }
}
