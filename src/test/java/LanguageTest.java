import java.lang.reflect.Constructor;
import java.lang.reflect.Field;
import java.lang.reflect.Method;
import java.lang.reflect.Modifier;
import java.nio.file.Files;
import java.nio.file.Path;
import java.util.Set;
import java.util.TreeSet;
import java.util.regex.Matcher;
import java.util.regex.Pattern;

/** The public face, and such rules of LANGUAGE.md as can be looked up; the source's path is the first argument. */
public final class LanguageTest {
    private static final Set<String> FACE = Set.of("option 3", "options 2", "demand 2", "told 2", "of 2", "fits 1",
        "least 1", "clash 0", "orders 1", "at 1", "rule 1", "near 1", "say 1", "wipe 0", "row 1", "filled 1", "lane 1",
        "image 1", "restore 1", "count 1");
    private static final Set<String> CONSTANTS =
        Set.of("UNKNOWN -1", "OUTSIDE -2", "STATE -3", "FULL -4", "NONE -6", "FAULT -7");
    private static final String[] FORBIDDEN = {"\\bthrow\\b", "\\bthrows\\b", "\\btry\\b", "\\bcatch\\b",
        "\\bsynchronized\\b", "\\bassert\\b", "\\bimport\\b", "\\bpackage\\b", "->", "::", "@", "\\bvolatile\\b",
        "\\bnative\\b", "\\btransient\\b", "\\bThread\\b", "\\bObject\\b", "\\bwhile\\s*\\(true\\)",
        "\\bstatic\\s*\\{", "\\bnanoTime\\b", "\\bcurrentTimeMillis\\b", "\\bequals\\b", "\\bhashCode\\b",
        "\\btoString\\b", "Exact\\b"};
    private static final Set<String> LIBRARY = Set.of("System.arraycopy", "Integer.bitCount", "Math.max", "Math.min");

    private static int wrong = 0;

    public static void main(String[] args) throws Exception {
        face();
        members(CarOrders.class);
        for (Class<?> inside : CarOrders.class.getDeclaredClasses()) {
            insideClass(inside);
        }
        check(CarOrders.class.getDeclaredClasses().length < 12, "too many classes");
        if (args.length < 1) {
            check(false, "the source's path is not told");
        } else {
            source(Files.readString(Path.of(args[0])));
        }
        System.out.println(wrong == 0 ? "the rules are kept" : wrong + " rules are not kept");
        if (wrong != 0) {
            System.exit(1);
        }
    }

    private static void check(boolean good, String what) {
        if (!good) {
            wrong++;
            System.out.println(what);
        }
    }

    private static void face() throws Exception {
        int modifiers = CarOrders.class.getModifiers();
        check(Modifier.isPublic(modifiers) && Modifier.isFinal(modifiers), "the class is not public and final");
        Set<String> methods = new TreeSet<>();
        for (Method method : CarOrders.class.getDeclaredMethods()) {
            if (Modifier.isPublic(method.getModifiers())) {
                methods.add(method.getName() + " " + method.getParameterCount());
                check(method.getReturnType() == int.class, method + " does not answer an int");
                check(!Modifier.isStatic(method.getModifiers()), method + " is static");
                for (Class<?> type : method.getParameterTypes()) {
                    check(type == int.class, method + " takes more than ints");
                }
            }
        }
        check(methods.equals(FACE), "the public methods are " + methods);
        Set<String> constants = new TreeSet<>();
        for (Field field : CarOrders.class.getFields()) {
            constants.add(field.getName() + " " + field.getInt(null));
        }
        check(constants.equals(CONSTANTS), "the public constants are " + constants);
        Constructor<?>[] constructors = CarOrders.class.getDeclaredConstructors();
        check(constructors.length == 1 && Modifier.isPublic(constructors[0].getModifiers())
            && constructors[0].getParameterCount() == 0, "the constructor is another");
    }

    private static void members(Class<?> cls) {
        for (Method method : cls.getDeclaredMethods()) {
            int modifiers = method.getModifiers();
            check(Modifier.isPublic(modifiers) || Modifier.isPrivate(modifiers), method + " is seen from outside");
            check(Modifier.isPublic(modifiers) || !isOfFace(method.getName()), method + " bears a public name");
        }
        for (Field field : cls.getDeclaredFields()) {
            int modifiers = field.getModifiers();
            check(Modifier.isPublic(modifiers) || Modifier.isPrivate(modifiers), field + " is seen from outside");
        }
        fields(cls);
    }

    private static void insideClass(Class<?> cls) {
        int modifiers = cls.getModifiers();
        check(Modifier.isStatic(modifiers), cls + " is not static");
        check(!Modifier.isPublic(modifiers) && !Modifier.isProtected(modifiers), cls + " is seen from outside");
        for (Method method : cls.getDeclaredMethods()) {
            check(!isOfFace(method.getName()), method + " bears a public name");
            check(method.getParameterCount() <= 7, method + " takes too much");
        }
        fields(cls);
    }

    private static void fields(Class<?> cls) {
        int count = 0;
        for (Field field : cls.getDeclaredFields()) {
            if (Modifier.isStatic(field.getModifiers())) {
                check(Modifier.isFinal(field.getModifiers()), field + " is static and not final");
            } else {
                count++;
            }
        }
        check(count <= 20, cls + " has too many fields");
    }

    private static boolean isOfFace(String name) {
        return FACE.stream().anyMatch(method -> method.startsWith(name + " "));
    }

    private static void source(String text) {
        String code = text.replaceAll("(?s)/\\*.*?\\*/", "").replaceAll("//[^\n]*", "");
        for (String word : FORBIDDEN) {
            check(!Pattern.compile(word).matcher(code).find(), "the source has " + word);
        }
        Matcher calls = Pattern.compile("\\b([A-Z][A-Za-z]*\\.[a-z][A-Za-z]*)\\(").matcher(code);
        while (calls.find()) {
            check(LIBRARY.contains(calls.group(1)), "the source calls " + calls.group(1));
        }
        for (int n = 0; n < text.length(); n++) {
            check(text.charAt(n) < 128, "a sign that is not plain, at " + n);
        }
    }
}
