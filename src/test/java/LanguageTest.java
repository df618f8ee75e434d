import com.sun.management.ThreadMXBean;
import java.lang.management.ManagementFactory;
import java.lang.reflect.Constructor;
import java.lang.reflect.Field;
import java.lang.reflect.Method;
import java.lang.reflect.Modifier;
import java.nio.charset.StandardCharsets;
import java.nio.file.Files;
import java.nio.file.Path;
import java.util.Arrays;
import java.util.List;
import java.util.TreeSet;

/** The face, what of the language's rules can be told by looking, and that no call ever throws. */
public final class LanguageTest {
    private static final String SOURCE = "src/main/java/TailSpeaks.java";
    private static final Due DUE = new Due();
    private static final String[] FACE = {
        "feed(long)", "end(int)", "text()", "fault()", "rule(int)", "one(int,int)", "at(int,int)", "know(int)",
        "say(int,int)", "ask(int,int)", "go(int,int)", "change(int)", "serve(int)", "come(int,int)", "split(int)", "join()",
        "ring(int)", "cut(int,int)", "lot(int,int)", "teach(int,int,boolean)", "price(int,int)",
        "plan(int,int,int,int,int)", "latest(int,int,int)", "steer(int,int,int)", "common(int)",
        "saw(int)", "forget()", "talks(int,int)", "keep(int)", "back(int)", "sheet(int,int,int)", "lay(int,int,int)",
        "read(int,int,int,int,int)", "torn()", "count(int)"};
    private static final String[] FORBIDDEN = {
        "\\bthrow\\b", "\\btry\\b", "\\bcatch\\b", "\\bsynchronized\\b", "\\bassert\\b", "->", "::", "\\w+Exact\\b",
        "static\\s*\\{", "\\bpackage\\b", "\\bimport\\b(?! java\\.util\\.Arrays;)", "System\\.(?!arraycopy)",
        "\\bhashCode\\b", "\\btoString\\b", "\\bThread\\b", "\\bprotected\\b", "\"\\s*\\+", "\\+\\s*\""};

    public static void main(String[] args) throws Exception {
        face();
        inside();
        source();
        methodsAreShort();
        room();
        wild();
        DUE.end();
    }

    private static void face() throws Exception {
        Class<?> c = TailSpeaks.class;
        DUE.is("public and final", c.getModifiers() & (Modifier.PUBLIC | Modifier.FINAL), Modifier.PUBLIC | Modifier.FINAL);
        TreeSet<String> got = new TreeSet<>();
        for (Method m : c.getDeclaredMethods()) {
            if (Modifier.isPrivate(m.getModifiers())) continue;
            got.add(m.getName() + Arrays.toString(m.getParameterTypes()).replace(" ", "").replace('[', '(').replace(']', ')'));
            DUE.is(m + " answers an int", m.getReturnType() == int.class ? 1 : 0, 1);
            DUE.is(m + " is public, no more", m.getModifiers(), Modifier.PUBLIC);
        }
        TreeSet<String> want = new TreeSet<>(Arrays.asList(FACE));
        DUE.is("the methods " + got, got.equals(want) ? 1 : 0, 1);
        DUE.is("constructors", c.getDeclaredConstructors().length, 1);
        for (Constructor<?> k : c.getDeclaredConstructors()) DUE.is("constructor", k.getModifiers(), Modifier.PUBLIC);
        int constants = 0;
        for (Field f : c.getDeclaredFields()) {
            if (Modifier.isStatic(f.getModifiers())) DUE.is(f + " is final", f.getModifiers() & Modifier.FINAL, Modifier.FINAL);
            if (Modifier.isPublic(f.getModifiers())) constants++;
            else DUE.is(f + " is private", f.getModifiers() & Modifier.PRIVATE, Modifier.PRIVATE);
        }
        DUE.is("constants", constants, 4);
    }

    private static void inside() {
        TreeSet<String> names = new TreeSet<>();
        for (String f : FACE) names.add(f.substring(0, f.indexOf('(')));
        Class<?>[] all = TailSpeaks.class.getDeclaredClasses();
        DUE.is("classes", all.length < 12 ? 1 : 0, 1);
        for (Class<?> c : all) {
            DUE.is(c + " is static", c.getModifiers() & Modifier.STATIC, Modifier.STATIC);
            int fields = 0;
            for (Field f : c.getDeclaredFields()) if (!Modifier.isStatic(f.getModifiers())) fields++;
            DUE.is(c + " has few fields", fields <= 20 ? 1 : 0, 1);
            for (Method m : c.getDeclaredMethods()) {
                DUE.is(m + " has a name of its own", names.contains(m.getName()) ? 1 : 0, 0);
                DUE.is(m + " has few parameters", m.getParameterCount() <= 7 ? 1 : 0, 1);
            }
        }
        for (Method m : TailSpeaks.class.getDeclaredMethods()) {
            if (Modifier.isPrivate(m.getModifiers())) DUE.is(m + " has a name of its own", names.contains(m.getName()) ? 1 : 0, 0);
        }
    }

    private static void source() throws Exception {
        String text = new String(Files.readAllBytes(Path.of(SOURCE)), StandardCharsets.ISO_8859_1);
        for (int i = 0; i < text.length(); i++) {
            if (text.charAt(i) > 126) DUE.is("the sign at " + i, text.charAt(i), ' ');
        }
        String code = text.replaceAll("(?s)/\\*.*?\\*/", " ").replaceAll("//[^\n]*", " ");
        for (String f : FORBIDDEN) {
            DUE.is("code has " + f, java.util.regex.Pattern.compile(f).matcher(code).find() ? 1 : 0, 0);
        }
    }

    /** A method's lines are those from its first to the next closing brace as far in. */
    private static void methodsAreShort() throws Exception {
        List<String> lines = Files.readAllLines(Path.of(SOURCE));
        int methods = 0;
        for (int i = 0; i < lines.size(); i++) {
            String line = lines.get(i);
            if (!line.matches("( {4}| {8})[a-z].*\\) \\{")) continue;
            String end = line.replaceAll("\\S.*", "}");
            int close = i;
            while (close < lines.size() && !lines.get(close).equals(end)) close++;
            methods++;
            DUE.is("lines of" + line, close - i < 60 ? 1 : 0, 1);
        }
        DUE.is("methods were found", methods > FACE.length ? 1 : 0, 1);
    }

    /** All runs share one room, so that a run of the dearest calls must make its rows but once. */
    private static void room() {
        ThreadMXBean machine = (ThreadMXBean) ManagementFactory.getThreadMXBean();
        dearest();
        long before = machine.getCurrentThreadAllocatedBytes();
        dearest();
        long made = machine.getCurrentThreadAllocatedBytes() - before;
        DUE.is("bytes that some 500 calls made, " + made + ", are few", made < 100_000 ? 1 : 0, 1);
    }

    private static void dearest() {
        TailSpeaks x = Due.told("person plain 3 0;person quick 5;person plain 1;person deaf 9 2;person mute 4 3;row 0 0 1 2 3 4;");
        x.sheet(0, 0, 12);
        for (int i = 0; i < 12; i++) x.lay(0, i, 10);
        x.keep(0);
        for (int i = 0; i < 5; i++) x.saw(TailSpeaks.NONE);
        for (int i = 0; i < 59; i++) {
            x.plan(0, i % 4, 31, i % 3, 10);
            x.latest(0, 0, 0);
            x.common(0);
            x.talks(0, 0);
            x.read(0, 0, 0, 0, 12);
            x.ring(0);
            x.steer(0, 0, 0);
            x.lot(0, i);
        }
    }

    /** Every call with all that is near, and far off, in several states. */
    private static void wild() throws Exception {
        int[] values = {0, 1, 2, 3, 4, 5, 6, 9, 10, 11, 15, 31, 40, 41, -1, -4, Integer.MAX_VALUE, Integer.MIN_VALUE};
        String five = "person plain 3 0;person quick 5;person liar 1 1 3;person deaf 9 2;person mute 4 0 3;";
        String[] states = {"", five, five + "row 0 0 1 2 3 4;", five + "row 0 0 1 2 3 4;ring 0;",
            five + "row 1 4 3;row 0 1;ring 1;", five + "person plain 1;row 0 5 4 3 2 1 0;", "ring 0;ring 1;"};
        java.util.Random random = new java.util.Random(3);
        for (Method m : TailSpeaks.class.getDeclaredMethods()) {
            if (!Modifier.isPublic(m.getModifiers())) continue;
            for (int round = 0; round < 400; round++) {
                TailSpeaks x = Due.told(states[round % states.length]);
                if (round % 2 == 0) x.keep(0);
                if (round % 3 == 0) x.sheet(random.nextInt(4), random.nextInt(3), random.nextInt(5));
                for (int s = random.nextInt(6); s > 0; s--) x.saw(random.nextInt(7) - 1);
                Object[] arguments = new Object[m.getParameterCount()];
                for (int i = 0; i < arguments.length; i++) {
                    int v = values[random.nextInt(values.length)];
                    Class<?> type = m.getParameterTypes()[i];
                    if (type == int.class) arguments[i] = v;
                    else if (type == long.class) arguments[i] = (long) v;
                    else arguments[i] = v > 3;
                }
                String call = m.getName() + Arrays.toString(arguments);
                try {
                    int got = (Integer) m.invoke(x, arguments);
                    DUE.is(call + " is an answer", got >= -10 - 320 ? 1 : 0, 1);
                } catch (java.lang.reflect.InvocationTargetException e) {
                    DUE.is(call + " threw " + e.getCause(), 1, 0);
                }
            }
        }
    }
}
