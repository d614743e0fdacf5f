import java.io.IOException;
import java.lang.management.ManagementFactory;
import java.lang.reflect.Constructor;
import java.lang.reflect.Field;
import java.lang.reflect.Method;
import java.lang.reflect.Modifier;
import java.nio.file.Files;
import java.nio.file.Path;
import java.util.Arrays;
import java.util.Set;
import java.util.TreeSet;
import java.util.regex.Matcher;
import java.util.regex.Pattern;

/** The public face, the rules of LANGUAGE.md that can be seen from outside, wild arguments, and memory. */
final class RulesTest {
    private static final String FACE = "int NO_SUCH,int BAD_VALUE,int BAD_TEXT,int TOO_MANY,int NOT_POSSIBLE,int NONE,"
        + "int STEP,int HOLD,int GUST,int LEAN,HatWinds(),int set(int int),int build(),int street(int int),"
        + "int change(int int int),int wind(int),int pass(int),int write(),int of(int int),int now(int int),"
        + "int record(int int),int sign(int),int count(int),int ifWind(int),int windFor(int),int windOfFlag(int int),"
        + "int without(int int),int windiest(),int put(long),int wipe(),int fault(),int undo(),int save(int),int restore(int)";
    private static final String[] NOT_ALLOWED = {
        "\\bthrow\\b", "\\bthrows\\b", "\\btry\\b", "\\bcatch\\b", "\\bsynchronized\\b", "\\bassert\\b", "\\bimport\\b", "\\bpackage\\b",
        "->", "::", "Exact\\(", "\\bprotected\\b", "static\\s*\\{", "\\+ *\"", "\" *\\+", "System\\.(?!arraycopy)", "\\bvar\\b", "@"
    };
    private static final Set<String> LIBRARY = Set.of("Math.min", "Math.max", "Integer.bitCount", "System.arraycopy");
    private static final int MOST_LINES = 60;
    private static final int BYTES_OF_AN_OBJECT = 16384;

    public static void main(String[] args) throws IOException {
        face();
        members();
        source(Files.readString(Path.of(args[0])));
        constants();
        wildArguments();
        memory();
        Due.end("RulesTest");
    }

    private static void holds(String what, boolean it) {
        Due.is("'" + what + "' holds", it ? 1 : 0, 1);
    }

    private static String types(Class<?>[] types) {
        return String.join(" ", Arrays.stream(types).map(Class::getName).toList());
    }

    private static void face() {
        Set<String> want = new TreeSet<>(Arrays.asList(FACE.split(",")));
        Set<String> got = new TreeSet<>();
        for (Field field : HatWinds.class.getDeclaredFields()) {
            if (!Modifier.isPrivate(field.getModifiers())) {
                holds(field + " is a public constant", Modifier.toString(field.getModifiers()).equals("public static final"));
                got.add(field.getType().getName() + " " + field.getName());
            }
        }
        for (Method method : HatWinds.class.getDeclaredMethods()) {
            if (!Modifier.isPrivate(method.getModifiers())) {
                holds(method + " is public alone", Modifier.toString(method.getModifiers()).equals("public"));
                got.add(method.getReturnType().getName() + " " + method.getName() + "(" + types(method.getParameterTypes()) + ")");
            }
        }
        for (Constructor<?> constructor : HatWinds.class.getDeclaredConstructors()) {
            got.add("HatWinds(" + types(constructor.getParameterTypes()) + ")");
            holds(constructor + " is public", Modifier.isPublic(constructor.getModifiers()));
        }
        holds("the face is " + want + "; it is " + got, want.equals(got));
        holds("HatWinds is public and final", Modifier.toString(HatWinds.class.getModifiers()).equals("public final"));
    }

    private static void members() {
        Set<String> names = new TreeSet<>();
        for (Method method : HatWinds.class.getMethods()) {
            names.add(method.getName());
        }
        Class<?>[] inside = HatWinds.class.getDeclaredClasses();
        holds("at most twelve classes", inside.length < 12);
        for (Class<?> each : inside) {
            holds(each + " is private and static", Modifier.isPrivate(each.getModifiers()) && Modifier.isStatic(each.getModifiers()));
            memberRules(each, names);
        }
        memberRules(HatWinds.class, names);
    }

    private static void memberRules(Class<?> each, Set<String> names) {
        long fields = Arrays.stream(each.getDeclaredFields()).filter(field -> !Modifier.isStatic(field.getModifiers())).count();
        holds(each + " has at most twenty fields", fields <= 20);
        for (Field field : each.getDeclaredFields()) {
            holds(field + " is final, if it is static", !Modifier.isStatic(field.getModifiers()) || Modifier.isFinal(field.getModifiers()));
        }
        for (Method method : each.getDeclaredMethods()) {
            boolean ofFace = each == HatWinds.class && Modifier.isPublic(method.getModifiers());
            holds(method + " bears a name of its own", ofFace || !names.contains(method.getName()));
            holds(method + " takes at most seven", method.getParameterCount() <= 7);
        }
    }

    private static void source(String source) {
        String code = source.replaceAll("(?s)/\\*.*?\\*/", "").replaceAll("//[^\n]*", "");
        for (String word : NOT_ALLOWED) {
            holds("no " + word, !Pattern.compile(word).matcher(code).find());
        }
        holds("signs 1 to 127 alone", source.chars().allMatch(sign -> sign > 0 && sign < 128));
        library(code);
        lengths(source);
    }

    /** Names that begin as a class does are classes of the file itself, or stand in LIBRARY with what is called of them. */
    private static void library(String code) {
        Set<String> own = new TreeSet<>(Set.of("HatWinds"));
        for (Class<?> each : HatWinds.class.getDeclaredClasses()) {
            own.add(each.getSimpleName());
        }
        Matcher names = Pattern.compile("\\b[A-Z]\\w*[a-z]\\w*\\b(\\.\\w+)?").matcher(code);
        while (names.find()) {
            holds(names.group() + " is of the file or may be used", LIBRARY.contains(names.group()) || own.contains(names.group()));
        }
    }

    /** A method begins behind 4 or 8 blanks, and ends by a bracket behind as many. */
    private static void lengths(String source) {
        Matcher methods = Pattern.compile("(?m)^( {4}| {8})(?! )[^=;\n]*\\) \\{\n(?s:.*?)^\\1\\}$").matcher(source);
        int many = 0;
        while (methods.find()) {
            String method = methods.group();
            many++;
            holds(method.substring(0, method.indexOf('{')).trim() + " is short", method.lines().count() <= MOST_LINES);
        }
        holds("most methods are seen, " + many, many >= 60);
    }

    private static void constants() {
        int[] got = {
            HatWinds.NO_SUCH, HatWinds.BAD_VALUE, HatWinds.BAD_TEXT, HatWinds.TOO_MANY, HatWinds.NOT_POSSIBLE, HatWinds.NONE,
            HatWinds.STEP, HatWinds.HOLD, HatWinds.GUST, HatWinds.LEAN
        };
        int[] want = {-1, -2, -3, -4, -5, -6, 0, 1, 2, 3};
        for (int at = 0; at < want.length; at++) {
            Due.is("constant " + at, got[at], want[at]);
        }
    }

    private static HatWinds state(int kind) {
        HatWinds x = kind % 2 == 0 ? new HatWinds() : Town.of("1(1a(1,1,1!,1),1(1,1,1,1),1(1,1,1,1),1(1*5,1,1))");
        if (kind > 1) {
            x.wind(200);
            x.pass(24);
            x.save(0);
            x.save(1);
        }
        Town.put(x, kind > 1 ? "1(".repeat(40) : "");
        return x;
    }

    /** Whatever is thrown ends the test. */
    private static void wildArguments() {
        int[] wild = {Integer.MIN_VALUE, Integer.MIN_VALUE + 1, -65536, -7, -6, -2, -1, 0, 1, 2, 3, 19, 20, 31, 32, 80, 81, 255, 65536, Integer.MAX_VALUE - 1, Integer.MAX_VALUE};
        int calls = 0;
        for (int kind = 0; kind < 4; kind++) {
            for (int a : wild) {
                for (int b : wild) {
                    HatWinds x = state(kind);
                    calls += all(x, a, b, wild[(calls & 0xFFFF) % wild.length]);
                }
            }
        }
        holds("no call throws", calls > 0);
    }

    private static int all(HatWinds x, int a, int b, int c) {
        int sum = x.set(a, b) + x.street(a, b) + x.change(a, b, c) + x.change(a, c, b) + x.wind(a) + x.pass(a) + x.write();
        sum += x.of(a, b) + x.now(a, b) + x.record(a, b) + x.sign(a) + x.count(a) + x.ifWind(a) + x.windFor(a);
        sum += x.windOfFlag(a, b) + x.without(a, b) + x.windiest() + x.put((long) a << 32 | b) + x.put(b) + x.fault() + x.build();
        sum += x.undo() + x.save(a) + x.restore(a) + x.undo() + x.wipe();
        return sum == 0 ? 1 : 26;
    }

    private static long allocated() {
        return ((com.sun.management.ThreadMXBean) ManagementFactory.getThreadMXBean()).getCurrentThreadAllocatedBytes();
    }

    /** All calls of a run live in one room, so only the constructor may take something of it. */
    private static void memory() {
        HatWinds x = state(3);
        lively(x);
        long before = allocated();
        x = new HatWinds();
        long made = allocated() - before;
        x.put(0x3128312C31282929L);
        before = allocated();
        long nothing = allocated() - before;
        before = allocated();
        lively(x);
        long taken = allocated() - before;
        Due.is("bytes that calls take", taken - nothing, 0);
        holds("an object takes " + made + " bytes, at most " + BYTES_OF_AN_OBJECT, made <= BYTES_OF_AN_OBJECT);
    }

    private static void lively(HatWinds x) {
        for (int round = 0; round < 10; round++) {
            all(x, 1, 1, 1);
            all(x, 0, 2, 1);
            x.write();
            x.build();
            x.save(1);
            x.restore(1);
            x.pass(24);
        }
    }
}
