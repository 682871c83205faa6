import java.lang.management.ManagementFactory;
import java.lang.reflect.InvocationTargetException;
import java.lang.reflect.Method;
import java.util.ArrayList;
import java.util.Arrays;
import java.util.Comparator;
import java.util.List;
import java.util.Random;

/** The Java machine never throws in the class: all that leaves it is thrown by a throw of its own; and it needs little room. */
public final class MachineTest {
    private static final int RUNS = 300;
    /** What brings matches on, in each of the phases. */
    private static final String[][] NEXT = {{"draw"}, {"stake", "begin"}, {"cast", "feed", "pass"}, {"weigh", "claim"}};
    /** More than the 512 that are promised: later answers are free, but the machine must not throw there either. */
    private static final int CALLS = 1500;
    private static final int[] WILD = {Integer.MIN_VALUE, Integer.MIN_VALUE + 1, -100, -2, -1, 99, 100, 301, 10000,
            Integer.MAX_VALUE - 1, Integer.MAX_VALUE};
    /** LANGUAGE.md's room has some 600,000 objects and arrays; none is smaller than 16 bytes. */
    private static final long MOST_BYTES = 16L * 20_000;

    private static final List<Method> CALLS_OF_THE_FACE = face();

    public static void main(String[] args) throws ReflectiveOperationException {
        int matches = 0;
        for (int run = 0; run < RUNS; run++) {
            matches += wildRun(new Random(run));
        }
        Check.isTrue("wild runs come as far as matches: " + matches, matches > RUNS);
        brokenInside();
        dearRunNeedsLittleRoom();
        Check.end();
    }

    private static List<Method> face() {
        List<Method> face = new ArrayList<>();
        for (Method one : Pegdraw.class.getMethods()) {
            if (one.getDeclaringClass() == Pegdraw.class) {
                face.add(one);
            }
        }
        face.sort(Comparator.comparing(Method::getName));
        Check.due("calls of the face", face.size(), 50);
        return face;
    }

    private static int wildRun(Random random) throws IllegalAccessException {
        Pegdraw x = new Pegdraw();
        int swims = random.nextInt(11);
        int anglers = random.nextInt(9);
        for (int i = 0; i < swims; i++) {
            x.swim(1 + random.nextInt(9), random.nextInt(10));
        }
        for (int i = 0; i < anglers; i++) {
            x.angler(1 + random.nextInt(9));
        }
        for (int i = 0; i < CALLS; i++) {
            String[] next = NEXT[Edge.PHASES.indexOf(x.phase())];
            Method one = CALLS_OF_THE_FACE.get(random.nextInt(CALLS_OF_THE_FACE.size()));
            callWildly(x, random.nextInt(4) == 0 ? next[random.nextInt(next.length)] : one.getName(), random);
        }
        Check.isTrue("sound behind all calls", x.isSound());
        return x.matches();
    }

    private static void callWildly(Pegdraw x, String name, Random random) throws IllegalAccessException {
        for (Method one : CALLS_OF_THE_FACE) {
            if (one.getName().equals(name)) {
                callWildly(x, one, random);
            }
        }
    }

    private static void callWildly(Pegdraw x, Method one, Random random) throws IllegalAccessException {
        Class<?>[] types = one.getParameterTypes();
        Object[] arguments = new Object[types.length];
        for (int i = 0; i < types.length; i++) {
            arguments[i] = argument(types[i], random);
        }
        try {
            one.invoke(x, arguments);
        } catch (InvocationTargetException e) {
            Throwable thrown = e.getCause();
            String what = one.getName() + Arrays.toString(arguments) + " threw " + thrown;
            Check.isTrue(what + ", which it does not name", Arrays.asList(one.getExceptionTypes()).contains(thrown.getClass()));
            Check.isTrue(what + ", not by its own throw", isThrownByTheClass(thrown));
        }
    }

    private static Object argument(Class<?> type, Random random) {
        if (type == boolean.class) {
            return random.nextBoolean();
        }
        if (type == char.class) {
            return random.nextInt(8) == 0 ? (char) random.nextInt(65536) : "klghfscumnwedt".charAt(random.nextInt(14));
        }
        int dice = random.nextInt(40);
        int most = dice < 20 ? 3 : dice < 36 ? 13 : 122;
        return dice == 39 ? WILD[random.nextInt(WILD.length)] : random.nextInt(most);
    }

    /** The machine's own messages ("/ by zero", "Index 9 out of bounds for length 8") are none of the class's texts. */
    private static boolean isThrownByTheClass(Throwable thrown) {
        String message = thrown.getMessage();
        StackTraceElement[] trace = thrown.getStackTrace();
        return message != null && !message.contains("by zero") && !message.contains("for length")
                && trace.length > 0 && trace[0].getClassName().startsWith("Pegdraw");
    }

    /** An index that is kept is looked at too, before it is used, though no call can bring such a one about. */
    private static void brokenInside() throws ReflectiveOperationException {
        int[] nowhere = {-1, 3, 10, Integer.MIN_VALUE, Integer.MAX_VALUE};
        for (int swim : nowhere) {
            answers("a fish in swim " + swim, "bank.fish.0.swim", swim);
            answers("a line in swim " + swim, "anglers.0.line", swim);
            answersAfterLanding("a fish of kind " + swim, "bank.fish.0.kind", swim == 3 ? 4 : swim);
        }
    }

    private static void answers(String what, String path, int value) throws ReflectiveOperationException {
        Pegdraw x = withFishAtLine();
        Inside.set(x, path, value);
        Inside.set(x, "bank.fish.0.hunger", 99);
        Inside.set(x, "bank.fish.1.swim", value);
        mustAnswer(what, x);
    }

    private static void answersAfterLanding(String what, String path, int value) throws ReflectiveOperationException {
        Pegdraw x = withFishAtLine();
        Inside.set(x, path, value);
        Scene.lucky(x);
        mustAnswer(what, x);
        Check.due(what + ": landed", x.of(0, 'c') > 0, true);
    }

    private static void mustAnswer(String what, Pegdraw x) {
        String thrown = "nothing";
        try {
            x.pass(60);
        } catch (RuntimeException e) {
            thrown = e.toString();
        }
        Check.isTrue(what + ": pass threw " + thrown, thrown.equals("nothing"));
    }

    private static Pegdraw withFishAtLine() {
        Pegdraw x = Scene.match(1, 9);
        x.stock(0, 0, 40);
        x.stock(0, 0, 30);
        x.cast(0, 0);
        x.feed(0, 20);
        x.setFlow(0);
        return x;
    }

    /** All that a run of 512 calls makes, the library's own objects and the exceptions not counted. */
    private static void dearRunNeedsLittleRoom() {
        com.sun.management.ThreadMXBean room = (com.sun.management.ThreadMXBean) ManagementFactory.getThreadMXBean();
        dearRun();
        long before = room.getThreadAllocatedBytes(Thread.currentThread().getId());
        dearRun();
        long needed = room.getThreadAllocatedBytes(Thread.currentThread().getId()) - before;
        System.out.println("  a run of 512 calls makes " + needed + " bytes");
        Check.isTrue("a run of 512 calls makes " + needed + " bytes, due are at most " + MOST_BYTES, needed <= MOST_BYTES);
    }

    /** Matches by the shortest way, in a bank with two anglers, and all minutes that are left, with all fish. */
    private static void dearRun() {
        Pegdraw x = new Pegdraw();
        for (int i = 0; i < 10; i++) {
            x.swim(1, 9);
        }
        x.angler(9);
        x.angler(9);
        for (int i = 0; i < 60; i++) {
            x.stock(i % 10, i % 4, 30 + i % 9);
        }
        int calls = 72;
        for (; calls + 5 <= 512 - 80; calls += 5) {
            x.draw();
            x.begin(10);
            x.pass(10);
            x.weigh(0, 0);
            x.weigh(1, 1);
        }
        for (; calls < 512 && x.minute() + 120 <= 9999; calls++) {
            x.pass(120);
        }
        Check.isTrue("many matches", x.matches() > 70);
        Check.isTrue("as many calls as are promised", calls > 500 && calls <= 512);
    }
}
