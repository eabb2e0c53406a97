import java.lang.reflect.InvocationTargetException;
import java.lang.reflect.Method;
import java.util.ArrayList;
import java.util.Arrays;
import java.util.List;
import java.util.Random;

/** Promises 1 to 25: the same long runs of calls, right and wrong ones, on DarkDesk and on the Reference. */
public final class RandomRunsTest {
    private static final int RUNS = 700;
    private static final int CALLS = 512;
    private static final String[] BUILDING = {"work", "work", "need", "need", "need", "store", "copy", "copy", "letter", "change"};
    private static final String[] STORING = {"store", "copy", "torn", "letter", "change", "together", "state", "lost"};
    private static final String[] ASKING = {
        "hangs", "steps", "rings", "cut", "together", "state", "lost", "begins", "count", "torn",
    };
    private static final String[] NIGHTLY = {
        "begin", "begin", "begin", "begin", "tick", "tick", "fail", "blow", "look", "look", "now", "now", "count", "begins",
    };

    private final Random random;
    private final int ticks;
    private final int mostStores;
    private final int mostWorks;
    private final int softness;
    private final DarkDesk desk = new DarkDesk();
    private final Reference reference = new Reference();
    private int works = 0;
    private int stores = 0;

    private RandomRunsTest(long seed) {
        random = new Random(seed);
        mostStores = 1 + random.nextInt(6);
        ticks = new int[] {0, 40, 30, 12, 6, 4, 3}[mostStores];
        // Works that are many make the reference's plan slow, so few runs have all eight.
        mostWorks = random.nextInt(20) == 0 ? 8 : 2 + random.nextInt(5);
        softness = random.nextInt(4);
    }

    public static void main(String[] args) throws ReflectiveOperationException {
        Check check = new Check();
        for (int run = 0; run < RUNS; run++) {
            new RandomRunsTest(run).compare(check, run);
        }
        check.end("RandomRunsTest");
    }

    private void compare(Check check, int run) throws ReflectiveOperationException {
        List<String> calls = new ArrayList<>();
        for (int i = 0; i < CALLS; i++) {
            String name = pick(i);
            Object[] args = argumentsOf(name);
            String due = answer(reference, name, args);
            String got = answer(desk, name, args);
            String call = name + Arrays.toString(args);
            calls.add(call + " " + due);
            check.same("run " + run + ", call " + i + ": " + call, due, got);
            works = reference.count(0);
            stores = reference.count(2);
            if (!due.equals(got)) {
                System.out.println("  behind " + calls);
                return;
            }
        }
    }

    private String pick(int call) {
        int kind = random.nextInt(100);
        if (call < 20 && stores < mostStores && kind < 20) {
            return "store";
        }
        if (call < 40 ? kind < 80 : kind < 2) {
            return oneOf(BUILDING);
        }
        if (kind < 8) {
            return oneOf(STORING);
        }
        if (kind < 12) {
            return "night";
        }
        if (kind < (mostWorks == 8 ? 13 : 17)) {
            return "plan";
        }
        return kind < 40 ? oneOf(ASKING) : oneOf(NIGHTLY);
    }

    /** A store beyond those that get copies leaves no choice, so it comes seldom. */
    private String oneOf(String[] names) {
        String name = names[random.nextInt(names.length)];
        return name.equals("store") && stores >= mostStores && random.nextInt(60) > 0 ? "copy" : name;
    }

    private static String answer(Object on, String name, Object[] args) throws ReflectiveOperationException {
        for (Method method : on.getClass().getMethods()) {
            if (method.getName().equals(name) && method.getDeclaringClass() == on.getClass()) {
                try {
                    return String.valueOf(method.invoke(on, args));
                } catch (InvocationTargetException e) {
                    return "throws." + e.getCause().getClass().getSimpleName();
                }
            }
        }
        throw new NoSuchMethodException(name);
    }

    private Object[] argumentsOf(String name) {
        switch (name) {
            case "work":
                return works >= mostWorks && random.nextInt(10) > 0
                        ? new Object[] {wrong(), 1, 1, 1}
                        : new Object[] {near(1, random.nextBoolean() ? 12 : 3), near(1, 6), weight(), near(-1, 9)};
            case "need":
                return new Object[] {aWork(), aWork(), random.nextInt(4) < softness};
            case "hangs": case "begins": case "fail": case "blow":
                return new Object[] {aWork()};
            case "steps":
                return new Object[] {aWork(), aWork()};
            case "rings":
                return new Object[] {bits()};
            case "copy":
                int age = tick();
                return new Object[] {aStore(), age, random.nextInt(15) == 0 ? tick() : Math.min(ticks, age + random.nextInt(4))};
            case "torn":
                return new Object[] {aStore(), near(0, 3), random.nextBoolean()};
            case "letter":
                int sent = tick();
                return new Object[] {aStore(), sent, aStore(), random.nextInt(15) == 0 ? tick() : sent + random.nextInt(3)};
            case "change":
                return new Object[] {aStore(), tick()};
            case "state": case "lost":
                return new Object[] {aStore()};
            case "plan":
                return new Object[] {hands(), bits()};
            case "night":
                return new Object[] {hands()};
            case "begin":
                return new Object[] {aWork(), random.nextBoolean()};
            case "tick":
                return new Object[] {random.nextInt(20) == 0 ? near(0, 100) : random.nextInt(6)};
            case "look":
                return new Object[] {aWork(), near(0, 2)};
            case "now":
                return new Object[] {near(0, 3)};
            case "count":
                return new Object[] {near(0, 6)};
            default:
                return new Object[0];
        }
    }

    /** Mostly from least to greatest, now and then just outside, seldom far off. */
    private int near(int least, int greatest) {
        int kind = random.nextInt(60);
        if (kind == 0) {
            return wrong();
        }
        if (kind == 1) {
            return random.nextBoolean() ? least - 1 : greatest + 1;
        }
        return least + random.nextInt(greatest - least + 1);
    }

    private int wrong() {
        return random.nextBoolean() ? Integer.MIN_VALUE + random.nextInt(3) : Integer.MAX_VALUE - random.nextInt(3);
    }

    private int weight() {
        return random.nextBoolean() ? near(0, 100) : near(0, 3);
    }

    private int hands() {
        return random.nextBoolean() ? near(1, 8) : near(6, 8);
    }

    private int aWork() {
        return near(0, Math.max(works - 1, 0));
    }

    private int aStore() {
        return near(0, Math.min(Math.max(stores - 1, 0), mostStores - 1));
    }

    private int tick() {
        return random.nextInt(80) == 0 ? wrong() : random.nextInt(ticks + 1);
    }

    private int bits() {
        return random.nextInt(8) == 0 ? random.nextInt() : random.nextInt(256);
    }
}
