import java.util.ArrayList;
import java.util.List;
import java.util.Set;
import java.util.TreeSet;

/**
 * What the boundary tests share. They go sentence by sentence: each one of the document that names a boundary case is
 * quoted, and has a test of its own. A sentence whose test asks nothing counts as wrong.
 */
final class Sentences {
    /** By the document's words, not by the class, so that a wrong constant is noticed. */
    static final int UNKNOWN = -1, OUTSIDE = -2, STATE = -3, FULL = -4, NONE = -6, FAULT = -7;
    static final int LOW = Integer.MIN_VALUE, HIGH = Integer.MAX_VALUE;

    private static String now = "";
    private static int sentences = 0;
    private static int asked = 0;
    private static int wrong = 0;

    private Sentences() {
    }

    /** A call of the class, or a run of them. */
    interface Call {
        int of(CarOrders x);
    }

    /** A call that takes one number. */
    interface Numbered {
        int of(CarOrders x, int number);
    }

    /** A new object, told some things. */
    interface Made {
        CarOrders anew();
    }

    static void sentence(String where, String words, Runnable test) {
        now = where + " \"" + words + "\"";
        sentences++;
        int before = asked;
        test.run();
        if (asked == before) {
            wrong++;
            System.out.println(now + ": nothing is asked");
        }
    }

    static void due(String call, int got, int want) {
        asked++;
        if (got != want) {
            wrong++;
            System.out.println(now + ": " + call + " answered " + got + ", due is " + want);
        }
    }

    static void due(String call, List<Integer> got, List<Integer> want) {
        asked++;
        if (!got.equals(want)) {
            wrong++;
            System.out.println(now + ": " + call + " answered " + got + ", due is " + want);
        }
    }

    static void end() {
        System.out.println(sentences + " sentences, " + asked + " answers, " + wrong + " of them not as due");
        if (wrong != 0) {
            System.exit(1);
        }
    }

    /** Sets and DEMANDS of the first CLASSES, two numbers a CLASS. */
    static CarOrders with(int... setsAndDemands) {
        CarOrders x = new CarOrders();
        for (int n = 0; n + 1 < setsAndDemands.length; n += 2) {
            x.options(n / 2, setsAndDemands[n]);
            x.demand(n / 2, setsAndDemands[n + 1]);
        }
        return x;
    }

    /** The same, and OPTION 0 is MAY of OF. */
    static CarOrders with(String mayOf, int... setsAndDemands) {
        CarOrders x = with(setsAndDemands);
        x.option(0, mayOf.charAt(0) - '0', mayOf.charAt(mayOf.length() - 1) - '0');
        return x;
    }

    static CarOrders write(CarOrders x, String signs) {
        x.wipe();
        for (int n = 0; n < signs.length(); n++) {
            x.say(signs.charAt(n));
        }
        return x;
    }

    /** The CLASSES at all places of a row are these, and behind them there is no place. */
    static void dueRow(String call, CarOrders x, Numbered places, String classes) {
        for (int i = 0; i < classes.length(); i++) {
            due(call + "(" + i + ")", places.of(x, i), classes.charAt(i) - '0');
        }
        due(call + "(" + classes.length() + ")", places.of(x, classes.length()), NONE);
    }

    /** Each number but those from a first to a last one gets the same answer, from a new object each. */
    static void dueBut(String call, Made made, Numbered numbered, int from, int to, int want) {
        for (int number : numbersBut(from, to)) {
            due(call + "(" + number + ")", numbered.of(made.anew(), number), want);
        }
    }

    /** Numbers that are not from..to: next to them, far away, and those that look like them in fewer bits. */
    static Set<Integer> numbersBut(int from, int to) {
        Set<Integer> numbers = new TreeSet<>();
        for (int step = 1; step <= 12; step++) {
            numbers.add(from - step);
            numbers.add(to + step);
        }
        for (int number = from; number <= to; number++) {
            for (int turn : new int[] {16, 32, 64, 256, 65536, LOW}) {
                numbers.add(number + turn);
                numbers.add(number - turn);
            }
            numbers.add(-number);
            numbers.add(~number);
        }
        numbers.addAll(List.of(LOW, LOW + 1, HIGH, HIGH - 1));
        numbers.removeIf(number -> number >= from && number <= to);
        return numbers;
    }

    /** Each number below -1 is OUTSIDE. */
    static void dueOutsideBelowWhole(String call, Made made, Numbered numbered) {
        for (int number : new int[] {-2, -3, -4, -5, -6, -7, -9, -10, -33, -257, -65537, LOW + 1, LOW}) {
            due(call + "(" + number + ")", numbered.of(made.anew(), number), OUTSIDE);
        }
    }

    /** Behind the last place there is no such place, however far. */
    static void dueNoneFrom(String call, Made made, Numbered numbered, int first) {
        for (int more : new int[] {0, 1, 2, 9, 10, 32, 256, 65536, HIGH - 9}) {
            int number = first + more;
            due(call + "(" + number + ")", numbered.of(made.anew(), number), NONE);
        }
    }

    /** All that can be asked without changing anything: 107 calls. */
    static List<Integer> asks(CarOrders x) {
        List<Integer> answers = new ArrayList<>();
        for (int cls = 0; cls < 5; cls++) {
            answers.add(x.told(cls, 0));
            answers.add(x.told(cls, 1));
        }
        for (int option = 0; option < 4; option++) {
            for (int what = 0; what < 4; what++) {
                answers.add(x.of(option, what));
            }
        }
        for (int i = -1; i < 10; i++) {
            answers.addAll(List.of(x.fits(i), x.least(i), x.at(i), x.rule(i), x.near(i), x.filled(i)));
        }
        for (int what = 0; what < 3; what++) {
            answers.addAll(List.of(x.orders(what), x.row(what), x.lane(what)));
        }
        for (int what = 0; what < 5; what++) {
            answers.add(x.count(what));
        }
        answers.add(x.clash());
        return answers;
    }

    /** All that an object holds, IMAGES too: 325 calls, which change it. */
    static List<Integer> holds(CarOrders x) {
        List<Integer> answers = asks(x);
        for (int k = 0; k < 2; k++) {
            answers.add(x.restore(k));
            answers.addAll(asks(x));
        }
        answers.add(x.say('0'));
        answers.add(x.wipe());
        return answers;
    }
}
