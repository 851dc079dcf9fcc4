import java.util.ArrayList;
import java.util.List;

/** Each sentence of the document's "What it is" and "Terms" that names a boundary case. */
public final class TermsBoundaryTest {
    private static final int UNKNOWN = Sentences.UNKNOWN, OUTSIDE = Sentences.OUTSIDE, FULL = Sentences.FULL,
        NONE = Sentences.NONE, FAULT = Sentences.FAULT, LOW = Sentences.LOW, HIGH = Sentences.HIGH;
    private static final int STATES = 4;

    public static void main(String[] args) {
        calls();
        refusals();
        partOne();
        partTwo();
        partThree();
        partFour();
        Sentences.end();
    }

    private static void due(String call, int got, int want) {
        Sentences.due(call, got, want);
    }

    private static CarOrders with(int... setsAndDemands) {
        return Sentences.with(setsAndDemands);
    }

    private static CarOrders with(String mayOf, int... setsAndDemands) {
        return Sentences.with(mayOf, setsAndDemands);
    }

    private static CarOrders write(CarOrders x, String signs) {
        return Sentences.write(x, signs);
    }

    // ---- what it is; the constants

    private static void calls() {
        String where = "What it is";
        Sentences.sentence(where, "An object is used for at most 512 calls after it has been made",
            TermsBoundaryTest::theLastOf512CallsIsAnswered);
        Sentences.sentence("The constants", "UNKNOWN = -1, OUTSIDE = -2, STATE = -3, FULL = -4, NONE = -6, FAULT = -7",
            TermsBoundaryTest::constants);
    }

    private static void theLastOf512CallsIsAnswered() {
        CarOrders asking = with(1, 2, 0, 3);
        for (int call = 5; call < 512; call++) {
            due("fits(-1), call " + call, asking.fits(-1), 6);
        }
        due("near(0), call 512", asking.near(0), 0);
        CarOrders telling = new CarOrders();
        for (int call = 1; call < 512; call++) {
            due("demand(4, " + call % 10 + "), call " + call, telling.demand(4, call % 10), call % 10);
        }
        due("orders(0), call 512", telling.orders(0), 1);
        CarOrders saying = new CarOrders();
        for (int call = 1; call < 512; call++) {
            int answer = call % 10 == 0 ? saying.wipe() : saying.say('0');
            due("say or wipe, call " + call, answer, call % 10 == 0 ? 9 : call % 10);
        }
        due("count(2), call 512", saying.count(2), 1);
        CarOrders keeping = with(5, 4);
        for (int call = 3; call < 512; call++) {
            due("image or restore, call " + call, call % 2 == 1 ? keeping.image(1) : keeping.restore(1), 1);
        }
        due("told(0, 0), call 512", keeping.told(0, 0), 5);
    }

    private static void constants() {
        due("UNKNOWN", CarOrders.UNKNOWN, -1);
        due("OUTSIDE", CarOrders.OUTSIDE, -2);
        due("STATE", CarOrders.STATE, -3);
        due("FULL", CarOrders.FULL, -4);
        due("NONE", CarOrders.NONE, -6);
        due("FAULT", CarOrders.FAULT, -7);
    }

    // ---- refused calls

    private static void refusals() {
        String first = "Calls that are refused answer the first that fits";
        Sentences.sentence("Terms, UNKNOWN ahead of OUTSIDE", first, TermsBoundaryTest::unknownAheadOfOutside);
        Sentences.sentence("Terms, UNKNOWN ahead of FULL", first, TermsBoundaryTest::unknownAheadOfFull);
        Sentences.sentence("Terms, OUTSIDE ahead of FAULT", first, TermsBoundaryTest::outsideAheadOfFault);
        Sentences.sentence("Terms, OUTSIDE ahead of STATE", first, TermsBoundaryTest::outsideAheadOfState);
        Sentences.sentence("Terms, OUTSIDE ahead of FULL", first, TermsBoundaryTest::outsideAheadOfFull);
        Sentences.sentence("Terms", "NONE -6 is answered only where no refusal fits.",
            TermsBoundaryTest::noneOnlyWhereNoRefusalFits);
        Sentences.sentence("Terms", "What is refused changes nothing.", TermsBoundaryTest::refusedChangesNothing);
        Sentences.sentence("Terms", "All that is told is as things are when it is asked.",
            TermsBoundaryTest::toldAsThingsAre);
    }

    private static void unknownAheadOfOutside() {
        CarOrders x = new CarOrders();
        for (int none : new int[] {-1, 4, LOW, HIGH}) {
            due("option(" + none + ", 0, 2)", x.option(none, 0, 2), UNKNOWN);
            due("option(" + none + ", 1, 6)", x.option(none, 1, 6), UNKNOWN);
            due("of(" + none + ", -1)", x.of(none, -1), UNKNOWN);
            due("of(" + none + ", 4)", x.of(none, 4), UNKNOWN);
        }
        for (int none : new int[] {-1, 5, LOW, HIGH}) {
            due("options(" + none + ", -1)", x.options(none, -1), UNKNOWN);
            due("options(" + none + ", 16)", x.options(none, 16), UNKNOWN);
            due("demand(" + none + ", -1)", x.demand(none, -1), UNKNOWN);
            due("demand(" + none + ", 10)", x.demand(none, 10), UNKNOWN);
            due("told(" + none + ", -1)", x.told(none, -1), UNKNOWN);
            due("told(" + none + ", 2)", x.told(none, 2), UNKNOWN);
        }
    }

    private static void unknownAheadOfFull() {
        CarOrders x = with(0, 9);
        for (int none : new int[] {-1, 5, LOW, HIGH}) {
            due("demand(" + none + ", 1), nine are told", x.demand(none, 1), UNKNOWN);
            due("demand(" + none + ", 9), nine are told", x.demand(none, 9), UNKNOWN);
        }
    }

    private static void outsideAheadOfFault() {
        CarOrders x = write(new CarOrders(), "0?");
        for (int none : new int[] {-1, 3, LOW, HIGH}) {
            due("row(" + none + ") with a ?", x.row(none), OUTSIDE);
            due("lane(" + none + ") with a ?", x.lane(none), OUTSIDE);
        }
    }

    private static void outsideAheadOfState() {
        CarOrders x = new CarOrders();
        for (int none : new int[] {-1, 2, 31, 32, 33, LOW, HIGH}) {
            due("restore(" + none + "), nothing is kept", x.restore(none), OUTSIDE);
        }
    }

    private static void outsideAheadOfFull() {
        CarOrders x = write(with(0, 9), "?????????");
        for (int none : new int[] {-1, 10, 11, LOW, HIGH}) {
            due("demand(1, " + none + "), nine are told", x.demand(1, none), OUTSIDE);
        }
        for (int none : new int[] {47, 53, 62, 64, LOW, HIGH}) {
            due("say(" + none + "), nine are said", x.say(none), OUTSIDE);
        }
    }

    private static void noneOnlyWhereNoRefusalFits() {
        CarOrders bad = with(1, 2);
        due("fits(-2), none fits", bad.fits(-2), OUTSIDE);
        due("near(-2), none fits", bad.near(-2), OUTSIDE);
        due("filled(-2), none is filled", bad.filled(-2), OUTSIDE);
        CarOrders empty = new CarOrders();
        due("least(-2), no places", empty.least(-2), OUTSIDE);
        due("rule(-2), no places", empty.rule(-2), OUTSIDE);
        due("fits(-2), no places", empty.fits(-2), OUTSIDE);
        due("near(-2), no places", empty.near(-2), OUTSIDE);
        due("filled(-2), no places", empty.filled(-2), OUTSIDE);
        write(bad, "1?");
        due("row(1), no break, and a ?", bad.row(1), FAULT);
        due("row(2), no order, and a ?", bad.row(2), FAULT);
    }

    private static void refusedChangesNothing() {
        for (int state = 0; state < STATES; state++) {
            List<Sentences.Call> refused = refusedIn(state);
            List<Integer> before = Sentences.holds(inState(state));
            // With these calls the object comes close to the 512 for which the document promises something.
            CarOrders all = inState(state);
            Sentences.asks(all);
            for (int n = 0; n < refused.size(); n++) {
                String name = "state " + state + ", refused call " + n;
                CarOrders x = inState(state);
                int answer = refused.get(n).of(x);
                due("whether it is refused, " + name, answer < 0 && answer != NONE ? 1 : 0, 1);
                Sentences.due("all that is held, " + name, Sentences.holds(x), before);
                refused.get(n).of(all);
            }
            Sentences.due("all that is held behind all of them, state " + state, Sentences.holds(all), before);
        }
    }

    /**
     * Objects that hold something of each kind, and nine CARS: in state 0 nothing is kept, in 0 and 3 THE PAD is full,
     * in 1 and 3 there is a ? on it.
     */
    private static CarOrders inState(int state) {
        CarOrders x = with(1, 2, 2, 1, 0, 2, 12, 3, 5, 1);
        x.option(1, 2, 3);
        x.option(3, 1, 1);
        if (state > 0) {
            x.image(0);
            x.options(2, 8);
            x.option(0, 2, 5);
            x.demand(3, 2);
            x.image(1);
            x.demand(3, 3);
            x.option(2, 3, 4);
        }
        String[] pads = {"001223334", "0?1", "301", "3?0?3?2?1"};
        return write(x, pads[state]);
    }

    private static List<Sentences.Call> refusedIn(int state) {
        List<Sentences.Call> calls = new ArrayList<>(List.of(x -> x.option(4, 2, 5), x -> x.option(-1, 2, 5),
            x -> x.option(0, 4, 3), x -> x.option(0, 0, 5), x -> x.option(0, 3, 6), x -> x.option(0, 1, 0),
            x -> x.options(5, 3), x -> x.options(-1, 3), x -> x.options(0, 16), x -> x.options(0, -1)));
        calls.addAll(List.of(x -> x.demand(5, 0), x -> x.demand(-1, 0), x -> x.demand(0, 10), x -> x.demand(0, -1),
            x -> x.demand(0, 3), x -> x.demand(4, 9), x -> x.say(53), x -> x.say(47), x -> x.say(62)));
        calls.addAll(List.of(x -> x.image(2), x -> x.image(-1), x -> x.restore(2), x -> x.restore(-1),
            x -> x.told(5, 0), x -> x.told(0, 2), x -> x.of(4, 0), x -> x.of(0, 4), x -> x.count(5)));
        calls.addAll(List.of(x -> x.fits(-2), x -> x.least(-2), x -> x.orders(3), x -> x.rule(-2), x -> x.near(-2),
            x -> x.row(3), x -> x.filled(-2), x -> x.lane(3), x -> x.lane(-1)));
        if (state == 0) {
            calls.addAll(List.of(x -> x.restore(0), x -> x.restore(1)));
        }
        if (state == 0 || state == 3) {
            calls.addAll(List.of(x -> x.say('1'), x -> x.say('?')));
        }
        if (state == 1 || state == 3) {
            calls.addAll(List.of(x -> x.row(0), x -> x.row(2), x -> x.lane(0), x -> x.lane(2)));
        }
        return calls;
    }

    private static void toldAsThingsAre() {
        List<Sentences.Call> changes = List.of(x -> x.option(0, 2, 3), x -> x.option(1, 1, 1), x -> x.option(3, 1, 5),
            x -> x.options(0, 15), x -> x.options(4, 0), x -> x.demand(3, 0), x -> x.demand(0, 1), x -> x.say('1'),
            x -> x.say('?'), CarOrders::wipe, x -> x.restore(0), x -> x.restore(1), x -> x.image(0));
        for (int state = 0; state < STATES; state++) {
            for (int n = 0; n < changes.size(); n++) {
                CarOrders asked = inState(state);
                Sentences.asks(asked);
                changes.get(n).of(asked);
                CarOrders notAsked = inState(state);
                changes.get(n).of(notAsked);
                Sentences.due("all, state " + state + ", behind change " + n, Sentences.asks(asked),
                    Sentences.asks(notAsked));
            }
        }
        CarOrders x = with(1, 3, 0, 1);
        due("fits(-1)", x.fits(-1), 0);
        due("near(-1)", x.near(-1), NONE);
        due("at(0)", x.at(0), NONE);
        x.demand(1, 2);
        due("fits(-1), a car more", x.fits(-1), 1);
        due("near(-1), a car more", x.near(-1), 0);
        due("at(0), a car more", x.at(0), 1);
        x.demand(1, 1);
        due("fits(-1), a car less", x.fits(-1), 0);
        due("least(-1), a car less", x.least(-1), 1);
    }

    // ---- 1 options, classes

    private static void partOne() {
        String where = "Terms 1";
        Sentences.sentence(where, "OPTIONS are 0 to 3", TermsBoundaryTest::optionsAre0To3);
        Sentences.sentence(where, "each with an OF, 1 to 5", TermsBoundaryTest::ofIs1To5);
        Sentences.sentence(where, "(2 at first)", TermsBoundaryTest::ofIs2AtFirst);
        Sentences.sentence(where, "and a MAY, 1 to OF", TermsBoundaryTest::mayIs1ToOf);
        Sentences.sentence(where, "(1 at first)", TermsBoundaryTest::mayIs1AtFirst);
        Sentences.sentence(where, "CLASSES are 0 to 4", TermsBoundaryTest::classesAre0To4);
        Sentences.sentence(where, "each with a set of OPTIONS (a number, 0 to 15", TermsBoundaryTest::setsAre0To15);
        Sentences.sentence(where, "bit o, of the value 1 shifted left by o, tells whether OPTION o is in it",
            TermsBoundaryTest::bitOfAnOption);
        Sentences.sentence(where, "; 0 at first)", TermsBoundaryTest::setIs0AtFirst);
        Sentences.sentence(where, "and a DEMAND, 0 to 9", TermsBoundaryTest::demandIs0To9);
        Sentences.sentence(where, "(0 at first)", TermsBoundaryTest::demandIs0AtFirst);
        Sentences.sentence(where, "all DEMANDS, added, are 9 at most", TermsBoundaryTest::demandsAre9AtMost);
        Sentences.sentence(where, "A ROW: CARS one behind another, each of a CLASS.", TermsBoundaryTest::rows);
        Sentences.sentence(where, "more than MAY of which have the OPTION", TermsBoundaryTest::moreThanMay);
        Sentences.sentence(where, "as many CARS one behind another in the ROW as OF", TermsBoundaryTest::asManyAsOf);
        Sentences.sentence(where, "So a ROW of fewer CARS than OF has no BREAK of that OPTION.",
            TermsBoundaryTest::fewerThanOf);
        Sentences.sentence(where, "BREAKS of a ROW: of all OPTIONS, added.", TermsBoundaryTest::breaksAreAdded);
        Sentences.sentence(where, "a ROW that has just as many CARS of each CLASS as its DEMAND",
            TermsBoundaryTest::justAsMany);
        Sentences.sentence(where, "(without DEMANDS there is one, without CARS)", TermsBoundaryTest::withoutDemands);
        Sentences.sentence(where, "the lesser CLASS at the first place at which they differ",
            TermsBoundaryTest::theFirstOrder);
    }

    private static void optionsAre0To3() {
        CarOrders x = new CarOrders();
        for (int option = 0; option <= 3; option++) {
            due("option(" + option + ", 1, 3)", x.option(option, 1, 3), 12);
            due("of(" + option + ", 1)", x.of(option, 1), 3);
        }
        Sentences.dueBut("option", CarOrders::new, (y, n) -> y.option(n, 1, 2), 0, 3, UNKNOWN);
        Sentences.dueBut("of", CarOrders::new, (y, n) -> y.of(n, 0), 0, 3, UNKNOWN);
    }

    private static void ofIs1To5() {
        CarOrders x = new CarOrders();
        int before = 12;
        for (int of = 1; of <= 5; of++) {
            due("option(2, 1, " + of + ")", x.option(2, 1, of), before);
            due("of(2, 1)", x.of(2, 1), of);
            before = 10 + of;
        }
        Sentences.dueBut("OF", CarOrders::new, (y, n) -> y.option(2, 1, n), 1, 5, OUTSIDE);
    }

    private static void ofIs2AtFirst() {
        for (int option = 0; option < 4; option++) {
            due("of(" + option + ", 1)", new CarOrders().of(option, 1), 2);
        }
    }

    private static void mayIs1ToOf() {
        for (int of = 1; of <= 5; of++) {
            int width = of;
            for (int may = 1; may <= of; may++) {
                CarOrders x = new CarOrders();
                due("option(1, " + may + ", " + of + ")", x.option(1, may, of), 12);
                due("of(1, 0)", x.of(1, 0), may);
                due("of(1, 1)", x.of(1, 1), of);
            }
            Sentences.dueBut("MAY of " + of, CarOrders::new, (y, n) -> y.option(1, n, width), 1, of, OUTSIDE);
        }
        CarOrders x = new CarOrders();
        x.option(1, 4, 5);
        due("option(1, 4, 3): the new OF counts", x.option(1, 4, 3), OUTSIDE);
        due("option(1, 3, 3): the new OF counts", x.option(1, 3, 3), 45);
        due("option(1, 4, 4): the new OF counts", x.option(1, 4, 4), 33);
    }

    private static void mayIs1AtFirst() {
        for (int option = 0; option < 4; option++) {
            due("of(" + option + ", 0)", new CarOrders().of(option, 0), 1);
        }
    }

    private static void classesAre0To4() {
        CarOrders x = new CarOrders();
        for (int cls = 0; cls <= 4; cls++) {
            due("options(" + cls + ", " + (cls + 1) + ")", x.options(cls, cls + 1), 0);
            due("demand(" + cls + ", 1)", x.demand(cls, 1), cls + 1);
        }
        for (int cls = 0; cls <= 4; cls++) {
            due("told(" + cls + ", 0)", x.told(cls, 0), cls + 1);
            due("told(" + cls + ", 1)", x.told(cls, 1), 1);
        }
        Sentences.dueBut("options", CarOrders::new, (y, n) -> y.options(n, 1), 0, 4, UNKNOWN);
        Sentences.dueBut("demand", CarOrders::new, (y, n) -> y.demand(n, 1), 0, 4, UNKNOWN);
        Sentences.dueBut("told", CarOrders::new, (y, n) -> y.told(n, 1), 0, 4, UNKNOWN);
    }

    private static void setsAre0To15() {
        CarOrders x = new CarOrders();
        int before = 0;
        for (int set = 15; set >= 0; set--) {
            due("options(3, " + set + ")", x.options(3, set), before);
            due("told(3, 0)", x.told(3, 0), set);
            before = set;
        }
        Sentences.dueBut("set", CarOrders::new, (y, n) -> y.options(3, n), 0, 15, OUTSIDE);
    }

    private static void bitOfAnOption() {
        for (int set = 0; set <= 15; set++) {
            CarOrders x = with(set, 2);
            int[] bits = {set % 2, set / 2 % 2, set / 4 % 2, set / 8};
            for (int option = 0; option < 4; option++) {
                due("of(" + option + ", 2), set " + set, x.of(option, 2), 2 * bits[option]);
            }
            due("least(-1), set " + set, x.least(-1), bits[0] + bits[1] + bits[2] + bits[3]);
            due("clash(), set " + set, x.clash(), set);
        }
    }

    private static void setIs0AtFirst() {
        for (int cls = 0; cls < 5; cls++) {
            due("told(" + cls + ", 0)", new CarOrders().told(cls, 0), 0);
            due("options(" + cls + ", 9)", new CarOrders().options(cls, 9), 0);
        }
    }

    private static void demandIs0To9() {
        for (int cls = 0; cls < 5; cls++) {
            CarOrders x = new CarOrders();
            int of = cls;
            for (int n = 9; n >= 0; n--) {
                due("demand(" + cls + ", " + n + ")", x.demand(cls, n), n);
                due("told(" + cls + ", 1)", x.told(cls, 1), n);
            }
            Sentences.dueBut("demand", CarOrders::new, (y, n) -> y.demand(of, n), 0, 9, OUTSIDE);
        }
    }

    private static void demandIs0AtFirst() {
        for (int cls = 0; cls < 5; cls++) {
            due("told(" + cls + ", 1)", new CarOrders().told(cls, 1), 0);
        }
        due("count(0)", new CarOrders().count(0), 0);
    }

    private static void demandsAre9AtMost() {
        for (int n = 0; n <= 9; n++) {
            CarOrders x = with(0, n);
            due("demand(4, " + (9 - n) + ") beside " + n, x.demand(4, 9 - n), 9);
            CarOrders y = with(0, n);
            if (n > 0) {
                due("demand(4, " + (10 - n) + ") beside " + n, y.demand(4, 10 - n), FULL);
                due("demand(4, 9) beside " + n, y.demand(4, 9), FULL);
                due("told(4, 1)", y.told(4, 1), 0);
            }
        }
        CarOrders five = with(0, 2, 0, 2, 0, 2, 0, 2, 0, 1);
        due("count(0)", five.count(0), 9);
        for (int cls = 0; cls < 5; cls++) {
            due("demand(" + cls + ", 3)", five.demand(cls, 3), FULL);
        }
    }

    private static void rows() {
        CarOrders x = with(1, 0);
        due("row(0), no car", x.row(0), 0);
        for (int cars = 1; cars <= 9; cars++) {
            x.say('0');
            due("row(0), " + cars + " cars", x.row(0), cars - 1);
        }
    }

    /** So many signs of the same kind. */
    private static String signs(char sign, int n) {
        return String.valueOf(sign).repeat(n);
    }

    private static void moreThanMay() {
        for (int option = 0; option < 4; option++) {
            for (int of = 1; of <= 5; of++) {
                for (int may = 1; may <= of; may++) {
                    CarOrders x = with(1 << option, 0, 15 - (1 << option), 0);
                    for (int other = 0; other < 4; other++) {
                        x.option(other, other == option ? may : 1, other == option ? of : 1);
                    }
                    String name = ", option " + option + " " + may + " of " + of;
                    write(x, signs('0', may) + signs('1', of - may));
                    due("row(0), just MAY" + name, x.row(0), 0);
                    write(x, signs('1', of - may) + signs('0', may));
                    due("row(0), just MAY at the end" + name, x.row(0), 0);
                    if (may < of) {
                        write(x, signs('0', may + 1) + signs('1', of - may - 1));
                        due("row(0), one more than MAY" + name, x.row(0), 1);
                        write(x, signs('1', of - may - 1) + signs('0', may + 1));
                        due("row(0), one more than MAY at the end" + name, x.row(0), 1);
                    }
                    write(x, "000000000");
                    due("row(0), nine" + name, x.row(0), may < of ? 10 - of : 0);
                }
            }
        }
    }

    private static void asManyAsOf() {
        for (int of = 2; of <= 5; of++) {
            CarOrders x = with("1 of " + of, 1, 0);
            write(x, "0" + signs('1', of - 2) + "0");
            due("row(0), the second just inside OF " + of, x.row(0), 1);
            write(x, "0" + signs('1', of - 1) + "0");
            due("row(0), the second just outside OF " + of, x.row(0), 0);
            write(x, "00" + signs('1', 7));
            due("row(0), at the beginning of nine, OF " + of, x.row(0), 1);
            due("row(1), at the beginning of nine, OF " + of, x.row(1), of - 1);
            write(x, signs('1', 7) + "00");
            due("row(0), at the end of nine, OF " + of, x.row(0), 1);
            due("row(1), at the end of nine, OF " + of, x.row(1), 8);
            write(x, "1111001" + signs('1', 2));
            due("row(0), each OF cars that have both, OF " + of, x.row(0), of == 5 ? 4 : of - 1);
        }
    }

    private static void fewerThanOf() {
        for (int of = 2; of <= 5; of++) {
            CarOrders x = with("1 of " + of, 1, of - 1);
            write(x, signs('0', of - 1));
            due("row(0), one fewer than " + of, x.row(0), 0);
            due("row(1), one fewer than " + of, x.row(1), NONE);
            due("lane(2), one fewer than " + of, x.lane(2), 0);
            due("fits(-1), one fewer than " + of, x.fits(-1), 1);
            due("filled(-1), one fewer than " + of, x.filled(-1), 1);
            due("least(-1), one fewer than " + of, x.least(-1), 0);
            due("orders(1), one fewer than " + of, x.orders(1), 0);
            due("rule(-1), one fewer than " + of, x.rule(-1), 0);
            due("near(-1), one fewer than " + of, x.near(-1), 0);
            x.demand(0, of);
            x.say('0');
            due("row(0), as many as " + of, x.row(0), 1);
            due("row(1), as many as " + of, x.row(1), of - 1);
            due("lane(2), as many as " + of, x.lane(2), 1);
            due("fits(-1), as many as " + of, x.fits(-1), 0);
            due("filled(-1), as many as " + of, x.filled(-1), 0);
            due("least(-1), as many as " + of, x.least(-1), 1);
            due("orders(1), as many as " + of, x.orders(1), 1);
            due("rule(-1), as many as " + of, x.rule(-1), 1);
            due("near(-1), as many as " + of, x.near(-1), NONE);
        }
        CarOrders two = with("1 of 5", 3, 4);
        due("least(-1): the other option has its breaks", two.least(-1), 3);
        for (int of = 3; of <= 5; of++) {
            otherOptionBreaks(with("1 of " + of, 3, 2), of);
        }
    }

    /** Two CARS have two OPTIONS; of the one they are fewer than OF, of the other they are a BREAK. */
    private static void otherOptionBreaks(CarOrders x, int of) {
        write(x, "00");
        due("row(0), the other breaks, beside " + of, x.row(0), 1);
        due("row(1), the other breaks, beside " + of, x.row(1), 1);
        due("lane(2), the other breaks, beside " + of, x.lane(2), 1);
        due("fits(-1), the other breaks, beside " + of, x.fits(-1), 0);
        due("filled(-1), the other breaks, beside " + of, x.filled(-1), 0);
        due("least(-1), the other breaks, beside " + of, x.least(-1), 1);
        due("orders(1), the other breaks, beside " + of, x.orders(1), 1);
        due("rule(-1), the other breaks, beside " + of, x.rule(-1), 1);
    }

    private static void breaksAreAdded() {
        CarOrders x = with(15, 9);
        write(x, "00");
        due("row(0), two with all options", x.row(0), 4);
        write(x, "000000000");
        due("row(0), nine with all options", x.row(0), 32);
        due("least(-1)", x.least(-1), 32);
        due("orders(1)", x.orders(1), 32);
        due("rule(-1)", x.rule(-1), 32);
        due("lane(2)", x.lane(2), 32);
        CarOrders y = with(1, 0, 2, 0, 4, 0, 8, 0, 0, 0);
        write(y, "00112233");
        due("row(0), one of each option", y.row(0), 4);
    }

    private static void justAsMany() {
        CarOrders x = with(0, 2, 0, 0, 0, 0, 0, 0, 0, 1);
        String[] pads = {"004", "040", "400", "00", "04", "0044", "0004", "001", "044", "444", "0014", ""};
        int[] orders = {1, 1, 1, 0, 0, 0, 0, 0, 0, 0, 0, 0};
        for (int n = 0; n < pads.length; n++) {
            write(x, pads[n]);
            due("count(3) of " + pads[n], x.count(3), orders[n]);
            due("row(2) of " + pads[n] + " is none", x.row(2) == NONE ? 0 : 1, orders[n]);
        }
    }

    private static void withoutDemands() {
        CarOrders emptied = with(15, 9);
        emptied.fits(-1);
        emptied.demand(0, 0);
        for (CarOrders x : new CarOrders[] {new CarOrders(), emptied}) {
            due("orders(0)", x.orders(0), 1);
            due("orders(1)", x.orders(1), 0);
            due("orders(2)", x.orders(2), 1);
            due("fits(-1)", x.fits(-1), 1);
            due("least(-1)", x.least(-1), 0);
            due("rule(-1)", x.rule(-1), 0);
            due("near(-1)", x.near(-1), 0);
            due("filled(-1), an empty pad", x.filled(-1), 1);
            due("count(3), an empty pad", x.count(3), 1);
            due("row(2), an empty pad", x.row(2), 0);
            due("fits(0): without cars", x.fits(0), NONE);
            due("least(0): without cars", x.least(0), NONE);
            due("at(0): without cars", x.at(0), NONE);
            due("rule(0): without cars", x.rule(0), NONE);
            due("near(0): without cars", x.near(0), NONE);
            due("filled(0): without cars", x.filled(0), NONE);
            x.say('0');
            due("count(3), a car", x.count(3), 0);
            due("filled(-1), a car", x.filled(-1), 0);
        }
    }

    private static void theFirstOrder() {
        CarOrders x = with(1, 2, 0, 1, 0, 1);
        Sentences.dueRow("fits", x, CarOrders::fits, "0102");
        Sentences.dueRow("least", x, CarOrders::least, "0102");
        CarOrders all = with(0, 1, 0, 1, 0, 1, 0, 1, 0, 1);
        Sentences.dueRow("fits", all, CarOrders::fits, "01234");
        CarOrders late = with(0, 7, 0, 1, 0, 1);
        Sentences.dueRow("fits: the last two places", late, CarOrders::fits, "000000012");
        CarOrders back = with(0, 1, 1, 2);
        Sentences.dueRow("fits: the lesser class can't be at the first place", back, CarOrders::fits, "101");
    }

    // ---- 2 orders

    private static void partTwo() {
        String where = "Terms 2";
        Sentences.sentence(where, "FITS: ORDERS that have no BREAK.", TermsBoundaryTest::fitsHaveNoBreak);
        Sentences.sentence(where, "LEAST: the fewest BREAKS that any ORDER has.", TermsBoundaryTest::leastOfAny);
        Sentences.sentence(where, "WANTED of an OPTION: DEMANDS of all CLASSES that have it, added.",
            TermsBoundaryTest::wanted);
        Sentences.sentence(where, "MAY times n by OF, n by OF being cut first", TermsBoundaryTest::roomIsCutFirst);
        Sentences.sentence(where, "the lesser one of MAY and what n leaves by OF", TermsBoundaryTest::theLesserOne);
        Sentences.sentence(where,
            "(No ROW of n CARS without a BREAK has more with the OPTION, if n is no less than OF.)",
            TermsBoundaryTest::noRowHasMore);
    }

    private static void fitsHaveNoBreak() {
        due("fits(-1), no options", with(0, 2, 0, 1).fits(-1), 3);
        due("fits(-1), one of three", with(1, 2, 0, 1).fits(-1), 1);
        due("fits(-1), one break each", with(1, 2).fits(-1), 0);
        due("fits(-1), a break of the last option alone", with(8, 2).fits(-1), 0);
        due("fits(-1), MAY is OF", with("2 of 2", 1, 9).fits(-1), 1);
        due("fits(-1), OF is 1", with("1 of 1", 1, 9).fits(-1), 1);
        due("fits(-1), all of as many as can be", with(0, 2, 0, 2, 0, 2, 0, 2, 0, 1).fits(-1), 22680);
        due("fits(-1), one of many", with(1, 5, 0, 4).fits(-1), 1);
        due("fits(-1), just none", with(1, 6, 0, 3).fits(-1), 0);
    }

    private static void leastOfAny() {
        due("least(-1), no break needed", with(1, 5, 0, 4).least(-1), 0);
        due("least(-1), one too many", with(1, 6, 0, 3).least(-1), 2);
        due("least(-1), all have it", with(1, 9).least(-1), 8);
        due("least(-1), all have all", with(15, 9).least(-1), 32);
        due("least(-1), less than the rule comes to", with("1 of 3", 1, 2, 0, 2).least(-1), 0);
        due("rule(-1)", with("1 of 3", 1, 2, 0, 2).rule(-1), 1);
    }

    private static void wanted() {
        CarOrders x = with(1, 0, 0, 3, 2, 1, 3, 2, 2, 3);
        due("of(0, 2): a class without a demand", x.of(0, 2), 2);
        due("of(1, 2): the last class, too", x.of(1, 2), 6);
        due("of(2, 2): no class has it", x.of(2, 2), 0);
        CarOrders nine = with(8, 2, 8, 2, 8, 2, 8, 2, 8, 1);
        due("of(3, 2): all have it", nine.of(3, 2), 9);
        due("of(0, 2), no demands", new CarOrders().of(0, 2), 0);
    }

    /** ROOM for 0 to 9 CARS. */
    private static void dueRooms(String mayOf, int... rooms) {
        for (int option = 0; option < 4; option++) {
            CarOrders x = new CarOrders();
            x.option(option, mayOf.charAt(0) - '0', mayOf.charAt(mayOf.length() - 1) - '0');
            for (int n = 0; n <= 9; n++) {
                x.demand(0, n / 2);
                x.demand(4, n - n / 2);
                due("of(" + option + ", 3), " + mayOf + ", n " + n, x.of(option, 3), rooms[n]);
            }
        }
    }

    private static void roomIsCutFirst() {
        dueRooms("1 of 1", 0, 1, 2, 3, 4, 5, 6, 7, 8, 9);
        dueRooms("1 of 2", 0, 1, 1, 2, 2, 3, 3, 4, 4, 5);
        dueRooms("2 of 2", 0, 1, 2, 3, 4, 5, 6, 7, 8, 9);
        dueRooms("2 of 3", 0, 1, 2, 2, 3, 4, 4, 5, 6, 6);
        dueRooms("3 of 5", 0, 1, 2, 3, 3, 3, 4, 5, 6, 6);
    }

    private static void theLesserOne() {
        dueRooms("1 of 3", 0, 1, 1, 1, 2, 2, 2, 3, 3, 3);
        dueRooms("3 of 4", 0, 1, 2, 3, 3, 4, 5, 6, 6, 7);
        dueRooms("1 of 5", 0, 1, 1, 1, 1, 1, 2, 2, 2, 2);
        dueRooms("2 of 5", 0, 1, 2, 2, 2, 2, 3, 4, 4, 4);
        dueRooms("4 of 5", 0, 1, 2, 3, 4, 4, 5, 6, 7, 8);
        dueRooms("5 of 5", 0, 1, 2, 3, 4, 5, 6, 7, 8, 9);
    }

    private static void noRowHasMore() {
        for (int of = 1; of <= 5; of++) {
            for (int may = 1; may <= of; may++) {
                for (int n = 1; n <= 9; n++) {
                    String mayOf = may + " of " + of;
                    int room = with(mayOf, 0, n).of(0, 3);
                    CarOrders just = with(mayOf, 1, room, 0, n - room);
                    due("whether one fits, as many as room, " + mayOf + ", n " + n, just.fits(-1) > 0 ? 1 : 0, 1);
                    if (room < n) {
                        CarOrders more = with(mayOf, 1, room + 1, 0, n - room - 1);
                        due("whether one fits, one more, " + mayOf + ", n " + n, more.fits(-1) > 0 ? 1 : 0,
                            n < of ? 1 : 0);
                    }
                }
            }
        }
    }

    // ---- 3 the rule

    private static void partThree() {
        String where = "Terms 3";
        Sentences.sentence(where, "of the CLASSES of which a CAR is left (DEMAND, less those ahead)",
            TermsBoundaryTest::ofWhichACarIsLeft);
        Sentences.sentence(where, "that by which fewest BREAKS come, whose last CAR this one is",
            TermsBoundaryTest::fewestBreaksCome);
        Sentences.sentence(where, "of such that with most OPTIONS", TermsBoundaryTest::mostOptions);
        Sentences.sentence(where, "of such that of which most CARS are left", TermsBoundaryTest::mostCarsLeft);
        Sentences.sentence(where, "of such the least.", TermsBoundaryTest::theLeastClass);
        Sentences.sentence(where, "behind those CARS of the ORDER that are ahead",
            TermsBoundaryTest::offBehindTheOrder);
        Sentences.sentence(where, "NEAR: the least OFF of those that FIT.", TermsBoundaryTest::nearOfThoseThatFit);
    }

    private static void ofWhichACarIsLeft() {
        CarOrders x = with(1, 3, 0, 0, 0, 0, 0, 0, 15, 0);
        Sentences.dueRow("rule: no demand, never taken", x, CarOrders::rule, "000");
        due("rule(-1)", x.rule(-1), 2);
        CarOrders y = with(1, 4, 0, 1);
        Sentences.dueRow("rule: one that is used up", y, CarOrders::rule, "01000");
        due("rule(-1)", y.rule(-1), 2);
        CarOrders last = with(0, 8, 3, 1);
        Sentences.dueRow("rule: one car is left at the beginning", last, CarOrders::rule, "100000000");
        Sentences.dueRow("rule: nine of the last class", with(0, 0, 0, 0, 0, 0, 0, 0, 9, 9), CarOrders::rule,
            "444444444");
    }

    private static void fewestBreaksCome() {
        CarOrders x = with(3, 3, 1, 1);
        Sentences.dueRow("rule: one break rather than two", x, CarOrders::rule, "0100");
        due("rule(-1)", x.rule(-1), 4);
        CarOrders none = with(1, 2, 0, 5);
        Sentences.dueRow("rule: no break rather than one", none, CarOrders::rule, "0101111");
        CarOrders few = with("1 of 3", 1, 2, 0, 2);
        Sentences.dueRow("rule: none in fewer than OF; those to come don't count", few, CarOrders::rule, "0011");
        due("rule(-1)", few.rule(-1), 1);
        CarOrders four = with(15, 2, 7, 1);
        Sentences.dueRow("rule: three breaks rather than four", four, CarOrders::rule, "010");
        CarOrders equal = with(1, 3, 1, 2);
        Sentences.dueRow("rule: as many by each", equal, CarOrders::rule, "00101");
        due("rule(-1)", equal.rule(-1), 4);
    }

    private static void mostOptions() {
        Sentences.dueRow("rule: ahead of most cars left", with(0, 5, 1, 1), CarOrders::rule, "100000");
        Sentences.dueRow("rule: more options, not a greater set", with(8, 1, 3, 1), CarOrders::rule, "10");
        Sentences.dueRow("rule: four rather than three", with(14, 2, 15, 1), CarOrders::rule, "100");
        Sentences.dueRow("rule: behind fewest breaks", with(1, 2, 0, 1), CarOrders::rule, "010");
        Sentences.dueRow("rule: ahead of the least", with(0, 1, 0, 1, 0, 1, 0, 1, 4, 1), CarOrders::rule, "40123");
    }

    private static void mostCarsLeft() {
        Sentences.dueRow("rule: one more is left", with(0, 1, 0, 2), CarOrders::rule, "101");
        Sentences.dueRow("rule: less those ahead", with(0, 2, 0, 4), CarOrders::rule, "110101");
        Sentences.dueRow("rule: as many options, others", with(1, 1, 2, 2), CarOrders::rule, "101");
        Sentences.dueRow("rule: ahead of the least", with(0, 1, 0, 1, 0, 1, 0, 1, 0, 5), CarOrders::rule, "444401234");
    }

    private static void theLeastClass() {
        Sentences.dueRow("rule: all the same", with(0, 1, 0, 1, 0, 1, 0, 1, 0, 1), CarOrders::rule, "01234");
        Sentences.dueRow("rule: the last two", with(0, 0, 0, 0, 0, 0, 2, 1, 1, 1), CarOrders::rule, "34");
        Sentences.dueRow("rule: as many left", with(0, 2, 0, 2), CarOrders::rule, "0101");
    }

    private static void dueOff(CarOrders x, String order, int off) {
        write(x, order);
        due("row(2) of " + order, x.row(2), off);
    }

    private static void offBehindTheOrder() {
        CarOrders x = with(0, 3, 1, 2);
        Sentences.dueRow("rule", x, CarOrders::rule, "10100");
        dueOff(x, "10100", 0);
        dueOff(x, "01010", 1);
        dueOff(x, "00101", 2);
        dueOff(x, "10010", 1);
        CarOrders y = with(0, 5, 0, 4);
        dueOff(y, "111100000", 4);
        dueOff(y, "000001111", 3);
        dueOff(y, "001101010", 3);
        CarOrders one = with(15, 9);
        dueOff(one, "000000000", 0);
    }

    private static void nearOfThoseThatFit() {
        CarOrders x = with("1 of 3", 1, 2, 0, 2);
        due("near(-1): OFF 0 does not fit", x.near(-1), 1);
        dueOff(x, "0011", 0);
        dueOff(x, "0110", 1);
        due("near(-1), none fits", with(1, 2).near(-1), NONE);
        due("near(-1), the rule's fits", with(1, 2, 0, 3).near(-1), 0);
        due("near(-1), no cars", new CarOrders().near(-1), 0);
    }

    // ---- 4 the pad, the lane

    private static void partFour() {
        String where = "Terms 4";
        Sentences.sentence(where, "THE PAD has up to 9 signs", TermsBoundaryTest::upTo9Signs);
        Sentences.sentence(where, "figures 0 to 4 (a CLASS), and ? (any).", TermsBoundaryTest::figuresAndAny);
        Sentences.sentence(where, "FILLED: ORDERS that have no BREAK", TermsBoundaryTest::filledHasNoBreak);
        Sentences.sentence(where, "as many CARS as THE PAD has signs", TermsBoundaryTest::asManyAsSigns);
        Sentences.sentence(where, "the CLASS that THE PAD tells at each place at which it tells one",
            TermsBoundaryTest::theClassThatIsTold);
        Sentences.sentence(where, "CARS come as a ROW, told by THE PAD (without ?), one after the other.",
            TermsBoundaryTest::carsCome);
        Sentences.sentence(where, "a LANE with K places (0 to 2), empty at first.",
            TermsBoundaryTest::laneEmptyAtFirst);
        Sentences.sentence(where, "the next CAR that comes goes on", TermsBoundaryTest::theNextGoesOn);
        Sentences.sentence(where, "or it goes into the LANE, if there is room", TermsBoundaryTest::ifThereIsRoom);
        Sentences.sentence(where, "or a CAR that is in the LANE, any one, goes on", TermsBoundaryTest::anyOneGoesOn);
        Sentences.sentence(where, "till all have gone on.", TermsBoundaryTest::tillAllHaveGoneOn);
        Sentences.sentence(where, "PUT RIGHT: the fewest BREAKS of the ROW in which they go on.",
            TermsBoundaryTest::putRight);
    }

    private static void upTo9Signs() {
        for (char sign : "01234?".toCharArray()) {
            CarOrders x = new CarOrders();
            for (int n = 1; n <= 9; n++) {
                due("say(" + sign + ")", x.say(sign), n);
            }
            due("say(" + sign + "), a tenth", x.say(sign), FULL);
            due("count(2)", x.count(2), 9);
        }
        CarOrders nine = write(with(0, 8, 0, 0, 0, 0, 0, 0, 0, 1), "000000004");
        due("count(3): the ninth sign counts", nine.count(3), 1);
        due("filled(8): the ninth sign counts", nine.filled(8), 4);
    }

    private static void figuresAndAny() {
        for (int cls = 0; cls <= 4; cls++) {
            CarOrders x = new CarOrders();
            x.demand(cls, 1);
            x.say('0' + cls);
            due("filled(0), the figure " + cls, x.filled(0), cls);
            due("count(3), the figure " + cls, x.count(3), 1);
            write(x, "?");
            due("filled(0), any, " + cls, x.filled(0), cls);
            due("count(3), any, " + cls, x.count(3), 0);
        }
        Sentences.dueBut("say", CarOrders::new, (x, n) -> n == 63 ? OUTSIDE : x.say(n), 48, 52, OUTSIDE);
        Sentences.dueBut("say", CarOrders::new, (x, n) -> n >= 48 && n <= 52 ? OUTSIDE : x.say(n), 63, 63, OUTSIDE);
    }

    private static void dueFilled(CarOrders x, String pad, int filled) {
        write(x, pad);
        due("filled(-1) of " + pad, x.filled(-1), filled);
    }

    private static void filledHasNoBreak() {
        CarOrders x = with(1, 2, 0, 2);
        dueFilled(x, "0011", 0);
        dueFilled(x, "1001", 0);
        dueFilled(x, "1100", 0);
        dueFilled(x, "0101", 1);
        dueFilled(x, "????", 3);
        dueFilled(x, "00??", 0);
        dueFilled(x, "??00", 0);
    }

    private static void asManyAsSigns() {
        CarOrders x = with(0, 8);
        dueFilled(x, "???????", 0);
        dueFilled(x, "????????", 1);
        dueFilled(x, "?????????", 0);
        dueFilled(x, "0000000", 0);
        dueFilled(x, "00000000", 1);
        dueFilled(x, "000000000", 0);
        dueFilled(x, "", 0);
        due("filled(0), an empty pad", x.filled(0), NONE);
        dueFilled(new CarOrders(), "", 1);
        dueFilled(new CarOrders(), "?", 0);
    }

    private static void theClassThatIsTold() {
        CarOrders x = with(0, 1, 0, 1, 0, 1, 0, 1, 0, 1);
        dueFilled(x, "?????", 120);
        for (int place = 0; place < 5; place++) {
            for (int cls = 0; cls < 5; cls++) {
                dueFilled(x, signs('?', place) + cls + signs('?', 4 - place), 24);
                due("filled(" + place + ")", x.filled(place), cls);
            }
        }
        dueFilled(x, "4????", 24);
        Sentences.dueRow("filled", x, CarOrders::filled, "40123");
        dueFilled(x, "????0", 24);
        Sentences.dueRow("filled", x, CarOrders::filled, "12340");
        dueFilled(x, "4?2?0", 2);
        dueFilled(x, "43210", 1);
        dueFilled(x, "44???", 0);
        CarOrders four = with(0, 1, 0, 1, 0, 1, 0, 1);
        dueFilled(four, "???4", 0);
        dueFilled(four, "4???", 0);
    }

    private static void dueLanes(CarOrders x, String pad, int none, int one, int two) {
        write(x, pad);
        due("lane(0) of " + pad, x.lane(0), none);
        due("lane(1) of " + pad, x.lane(1), one);
        due("lane(2) of " + pad, x.lane(2), two);
    }

    private static void carsCome() {
        CarOrders x = with(1, 0);
        dueLanes(x, "", 0, 0, 0);
        dueLanes(x, "0", 0, 0, 0);
        dueLanes(x, "000000000", 8, 8, 8);
        dueLanes(x, "?", FAULT, FAULT, FAULT);
        dueLanes(x, "00000000?", FAULT, FAULT, FAULT);
        dueLanes(x, "?00000000", FAULT, FAULT, FAULT);
    }

    private static void laneEmptyAtFirst() {
        CarOrders x = write(with(1, 0), "00011");
        for (int times = 0; times < 3; times++) {
            due("lane(2)", x.lane(2), 0);
            due("lane(1)", x.lane(1), 1);
            due("lane(0): as it comes", x.lane(0), 2);
            due("row(0)", x.row(0), 2);
        }
        Sentences.dueBut("lane", () -> write(with(1, 0), "00011"), CarOrders::lane, 0, 2, OUTSIDE);
    }

    private static void theNextGoesOn() {
        CarOrders x = with(1, 0);
        dueLanes(x, "010101010", 0, 0, 0);
        dueLanes(x, "0010", 1, 1, 1);
        dueLanes(x, "0011", 1, 0, 0);
        dueLanes(x, "1100", 1, 0, 0);
    }

    private static void ifThereIsRoom() {
        CarOrders x = with(1, 0);
        dueLanes(x, "00011", 2, 1, 0);
        dueLanes(x, "0000111", 3, 2, 1);
        dueLanes(x, "000011111", 3, 2, 1);
        dueLanes(x, "111110000", 3, 2, 1);
    }

    private static void anyOneGoesOn() {
        CarOrders x = with("1 of 3", 1, 0, 2, 0, 0, 0);
        x.option(1, 1, 3);
        // 0 goes on, 0 and 2 are in the lane, 1 goes on: now 2, which came in last, and then 0 and 1.
        dueLanes(x, "00211", 2, 1, 0);
        // 0 goes on, 2 and 0 are in the lane, 1 goes on: now 2, which came in first, and then 0 and 1.
        dueLanes(x, "20011", 3, 1, 0);
        CarOrders both = with("1 of 4", 1, 0, 2, 0, 0, 0);
        both.option(1, 1, 4);
        dueLanes(both, "002112", 3, 2, 0);
        CarOrders meanwhile = with(1, 0, 2, 0);
        // The cars in the lane can't wait till the last one has come.
        dueLanes(meanwhile, "00011", 3, 1, 0);
    }

    private static void tillAllHaveGoneOn() {
        CarOrders x = with(1, 0);
        dueLanes(x, "00", 1, 1, 1);
        dueLanes(x, "000", 2, 2, 2);
        dueLanes(x, "1000", 2, 1, 1);
        dueLanes(x, "10000", 3, 2, 2);
        dueLanes(with("2 of 3", 1, 0), "000", 1, 1, 1);
    }

    private static void putRight() {
        CarOrders x = with(1, 5, 0, 1);
        dueLanes(x, "000111", 2, 1, 0);
        dueLanes(x, "01", 0, 0, 0);
        CarOrders all = with(15, 0);
        dueLanes(all, "0011", 4, 0, 0);
        dueLanes(all, "000000000", 32, 32, 32);
        dueLanes(with("2 of 2", 1, 0), "000000000", 0, 0, 0);
    }
}
