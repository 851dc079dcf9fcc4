import java.lang.reflect.Field;
import java.lang.reflect.Method;
import java.lang.reflect.Modifier;
import java.nio.file.Files;
import java.nio.file.Path;
import java.util.ArrayList;
import java.util.Arrays;
import java.util.List;
import java.util.regex.Matcher;
import java.util.regex.Pattern;

/** README.md tells the truth: its example's answers, its constants, its table of calls. */
public final class ReadmeTest {
    private static final Pattern CALL = Pattern.compile("x\\.(\\w+)\\(([^)]*)\\);\\s*// (-?\\d+)\\b.*");
    private static final Pattern CONSTANT = Pattern.compile("`([A-Z]+)`(?: \\| | \\()(-\\d+)\\b");
    private static final Pattern TABLE_CALL = Pattern.compile("\\| `(\\w+)\\(([^)]*)\\)` \\|.*");

    private static int wrong = 0;

    /** The path of the class's source is the first argument: README.md stands four folders above it. */
    public static void main(String[] args) throws Exception {
        Path source = Path.of(args.length > 0 ? args[0] : "src/main/java/CarOrders.java").toAbsolutePath();
        List<String> lines = Files.readAllLines(source.resolve("../../../../README.md").normalize());
        int calls = example(lines);
        constants(lines);
        table(lines);
        System.out.println(wrong == 0 ? calls + " calls and the tables are as due" : wrong + " things are not as due");
        if (wrong != 0) {
            System.exit(1);
        }
    }

    private static void due(String what, Object got, Object want) {
        if (!got.equals(want)) {
            wrong++;
            System.out.println("README.md: " + what + " is " + got + ", due is " + want);
        }
    }

    private static int example(List<String> lines) throws Exception {
        int start = lines.indexOf("CarOrders x = new CarOrders();");
        due("the line that begins the example", start >= 0, true);
        CarOrders x = new CarOrders();
        int calls = 0;
        for (int n = start + 1; n < lines.size() && !lines.get(n).equals("```"); n++) {
            Matcher call = CALL.matcher(lines.get(n));
            if (call.matches()) {
                due(lines.get(n), answer(x, call.group(1), call.group(2)), Integer.parseInt(call.group(3)));
                calls++;
            } else {
                due(lines.get(n), "no call with an answer", "one");
            }
        }
        due("an example with calls", calls > 0, true);
        return calls;
    }

    private static Object answer(CarOrders x, String name, String numbers) throws Exception {
        List<Object> told = new ArrayList<>();
        for (String number : numbers.split(", ")) {
            if (number.startsWith("'")) {
                told.add((int) number.charAt(1));
            } else if (!number.isEmpty()) {
                told.add(Integer.parseInt(number));
            }
        }
        Class<?>[] types = new Class<?>[told.size()];
        Arrays.fill(types, int.class);
        return CarOrders.class.getMethod(name, types).invoke(x, told.toArray());
    }

    private static void constants(List<String> lines) throws Exception {
        List<String> told = new ArrayList<>();
        for (String line : lines) {
            Matcher constant = CONSTANT.matcher(line);
            while (constant.find()) {
                told.add(constant.group(1) + " " + constant.group(2));
            }
        }
        for (Field field : CarOrders.class.getFields()) {
            String constant = field.getName() + " " + field.getInt(null);
            due(constant + " among the constants", told.remove(constant), true);
        }
        due("what is told beside the constants", told, List.of());
    }

    private static void table(List<String> lines) {
        List<String> told = new ArrayList<>();
        for (String line : lines) {
            Matcher call = TABLE_CALL.matcher(line);
            if (call.matches()) {
                told.add(call.group(1) + " " + (call.group(2).isEmpty() ? 0 : call.group(2).split(", ").length));
            }
        }
        for (Method method : CarOrders.class.getDeclaredMethods()) {
            if (Modifier.isPublic(method.getModifiers())) {
                String call = method.getName() + " " + method.getParameterCount();
                due(call + " in the table", told.remove(call), true);
            }
        }
        due("what is in the table beside the calls", told, List.of());
    }
}
