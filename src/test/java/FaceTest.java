import java.io.IOException;
import java.lang.reflect.Constructor;
import java.lang.reflect.Field;
import java.lang.reflect.Method;
import java.lang.reflect.Modifier;
import java.nio.charset.StandardCharsets;
import java.nio.file.Files;
import java.nio.file.Path;
import java.util.ArrayList;
import java.util.List;
import java.util.Set;
import java.util.TreeSet;
import java.util.function.ToLongFunction;
import java.util.regex.Matcher;
import java.util.regex.Pattern;

/** The public face as the document has it, and of ../shared/LANGUAGE.md what can be seen from outside. */
public final class FaceTest {
    private static final Checks CHECKS = new Checks();
    private static final String FACE = "write(int)int wipe()int fault()int canal()int barge(int,int)int lock(int,int)int"
            + " pass()int give(int,int)int letBy(int)int learn(int,int)int undo()int basin()int hour(int)int"
            + " gains(int)int mates(int)int first(int,int)int tea(int,int,boolean)int judge(int,int)int"
            + " share(int,boolean)int gave(int,int,int)int rests(int,int,int,int)int"
            + " asleep(int,int,int,boolean)int seed(long)long days(int,int)int keep(int)int again(int)int count(int)int";
    private static final String CONSTANTS = "UNKNOWN=-1 OUTSIDE=-2 STATE=-3 FULL=-4 NONE=-9";
    private static final String RULED_OUT = "\\b(throw|throws|try|catch|finally|synchronized|assert|package"
            + "|import (?!java\\.util\\.(ArrayList|List|Arrays|Iterator);)|(?<!import )java\\.\\w+|\\w+Exact"
            + "|System\\.(?!arraycopy)\\w+|Arrays\\.(?!copyOf|fill)\\w+|Math\\.(?!max|min|abs|floor(Div|Mod))\\w+)\\b|::";
    /** An object takes 16 bytes or more, so no call that takes fewer bytes fills the room of 600,000 in 512 calls. */
    private static final long ROOM_OF_A_CALL = 16 * 600_000 / 512;

    public static void main(String[] args) throws IOException {
        face();
        constants();
        inside();
        sections();
        words();
        room();
        CHECKS.end();
    }

    private static void face() {
        Set<String> open = new TreeSet<>();
        Set<String> closed = new TreeSet<>();
        for (Method method : EelLocks.class.getDeclaredMethods()) {
            boolean isPublic = Modifier.isPublic(method.getModifiers());
            (isPublic ? open : closed).add(isPublic ? signature(method) : method.getName());
            CHECKS.holds("no half-open method: " + method, isPublic || Modifier.isPrivate(method.getModifiers()));
            CHECKS.holds("no static public method: " + method, !isPublic || !Modifier.isStatic(method.getModifiers()));
        }
        Set<String> due = new TreeSet<>(Set.of(FACE.split(" ")));
        CHECKS.holds("the methods are " + due + ", not " + open, open.equals(due));
        for (String method : due) {
            String name = method.substring(0, method.indexOf('('));
            CHECKS.holds("no private method is a " + name, !closed.contains(name));
        }
        Constructor<?>[] constructors = EelLocks.class.getDeclaredConstructors();
        CHECKS.due("constructors", constructors.length, 1);
        CHECKS.holds("it is public", Modifier.isPublic(constructors[0].getModifiers()));
        CHECKS.due("of no parameters", constructors[0].getParameterCount(), 0);
        CHECKS.due("the class is public and final", EelLocks.class.getModifiers(), Modifier.PUBLIC | Modifier.FINAL);
        CHECKS.holds("without a package", EelLocks.class.getPackageName().isEmpty());
    }

    private static String signature(Method method) {
        StringBuilder signature = new StringBuilder(method.getName()).append('(');
        for (Class<?> type : method.getParameterTypes()) {
            signature.append(signature.charAt(signature.length() - 1) == '(' ? "" : ",").append(type.getName());
        }
        return signature.append(')').append(method.getReturnType().getName()).toString();
    }

    private static void constants() {
        Set<String> open = new TreeSet<>();
        for (Field field : EelLocks.class.getDeclaredFields()) {
            int modifiers = field.getModifiers();
            CHECKS.holds("no static field may change: " + field, !Modifier.isStatic(modifiers) || Modifier.isFinal(modifiers));
            CHECKS.holds("no half-open field: " + field, Modifier.isPublic(modifiers) || Modifier.isPrivate(modifiers));
            if (Modifier.isPublic(modifiers)) {
                open.add(field.getName() + "=" + valueOf(field));
            }
        }
        Set<String> due = new TreeSet<>(Set.of(CONSTANTS.split(" ")));
        CHECKS.holds("the constants are " + due + ", not " + open, open.equals(due));
    }

    private static int valueOf(Field field) {
        try {
            return field.getInt(null);
        } catch (IllegalAccessException e) {
            throw new IllegalStateException(e);
        }
    }

    private static void inside() {
        Class<?>[] inside = EelLocks.class.getDeclaredClasses();
        CHECKS.holds("some twelve classes", inside.length <= 13);
        for (Class<?> one : inside) {
            int modifiers = one.getModifiers();
            CHECKS.holds("private or package-visible: " + one, !Modifier.isPublic(modifiers) && !Modifier.isProtected(modifiers));
            CHECKS.holds("static: " + one, Modifier.isStatic(modifiers));
            int fields = 0;
            for (Field field : one.getDeclaredFields()) {
                fields += Modifier.isStatic(field.getModifiers()) ? 0 : 1;
            }
            CHECKS.holds("some twenty fields: " + one, fields <= 22);
        }
    }

    /** 'Ahead of the calls .. the interface says ..': the class has these lines, and behind each just these calls. */
    private static void sections() throws IOException {
        String doc = Files.readString(Path.of("../shared/DOC.md"), StandardCharsets.UTF_8);
        List<String> due = new ArrayList<>();
        Matcher ahead = Pattern.compile("(?m)^Ahead of the calls (.*) the interface says: (----.*)\\.$").matcher(doc);
        while (ahead.find()) {
            due.add(ahead.group(2));
            due.addAll(List.of(ahead.group(1).replace("`", "").split(", ")));
        }
        CHECKS.due("lines that the interface says, and calls", due.size(), 5 + 27);
        List<String> told = new ArrayList<>();
        Matcher line = Pattern.compile("(?m)^ {4}(?:// (----.*)|public (?:int|long) (\\w+)\\(.*)$").matcher(source());
        while (line.find()) {
            told.add(line.group(1) != null ? line.group(1) : line.group(2));
        }
        CHECKS.holds("the interface says " + due + ", not " + told, told.equals(due));
    }

    private static String source() throws IOException {
        return Files.readString(Path.of("src/main/java/EelLocks.java"), StandardCharsets.UTF_8);
    }

    private static void words() throws IOException {
        String code = source().replaceAll("(?s)/\\*.*?\\*/", "").replaceAll("//[^\n]*", "");
        Matcher ruledOut = Pattern.compile(RULED_OUT).matcher(code);
        while (ruledOut.find()) {
            CHECKS.holds("ruled out: " + ruledOut.group(), false);
        }
        CHECKS.holds("no sign beyond 127", code.chars().allMatch(c -> c < 128));
        int length = 0;
        for (String line : code.split("\n")) {
            boolean opens = line.matches(" {4}( {4})?\\S.*\\) \\{");
            length = opens ? 0 : length + 1;
            CHECKS.holds("methods stay short: " + line, !line.matches(" {4}( {4})?\\}") || length <= 65);
            CHECKS.holds("no lambda: " + line, !line.contains("->") || line.matches("\\s*(case|default)\\b.*->.*"));
        }
    }

    /** All calls of one run live in one room: what the dearest calls make must find room 512 times. */
    private static void room() {
        List<ToLongFunction<EelLocks>> dear = List.of(
                EelLocks::fault, EelLocks::canal, EelLocks::pass, x -> x.give(1, 3), x -> x.letBy(1), x -> x.learn(3, 1),
                EelLocks::undo, EelLocks::basin, x -> x.hour(1), x -> x.gains(1), x -> x.mates(1), x -> x.first(4, 5),
                x -> x.tea(4, 5, true), x -> x.tea(5, 0, false), x -> x.judge(6, 123456), x -> x.share(1, true),
                x -> x.gave(4, 214365, 1), x -> x.rests(0, 1, 4, 1), x -> x.asleep(0, 1, 3, true), x -> x.days(0, 30),
                x -> x.keep(1), x -> x.again(1), x -> x.count(8));
        EelLocks x = Checks.canal("CK3K1K2K3K0B119B128B107B116B125B134");
        for (int i = 0; i < dear.size(); i++) {
            ToLongFunction<EelLocks> call = dear.get(i);
            call.applyAsLong(x);
            long made = bytesMadeBy(call, x);
            CHECKS.holds("dear call " + i + " makes " + made + " bytes", made < ROOM_OF_A_CALL);
        }
        long made = bytesMadeBy(y -> new EelLocks().count(0), x);
        CHECKS.holds("a new object makes " + made + " bytes", made < 4 * 7_300_000);
    }

    private static long bytesMadeBy(ToLongFunction<EelLocks> call, EelLocks x) {
        com.sun.management.ThreadMXBean bean =
                (com.sun.management.ThreadMXBean) java.lang.management.ManagementFactory.getThreadMXBean();
        long id = Thread.currentThread().getId();
        bean.getThreadAllocatedBytes(id);
        long before = bean.getThreadAllocatedBytes(id);
        call.applyAsLong(x);
        return bean.getThreadAllocatedBytes(id) - before;
    }
}
