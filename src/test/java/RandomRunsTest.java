import java.lang.reflect.InvocationTargetException;
import java.lang.reflect.Method;
import java.util.ArrayList;
import java.util.Arrays;
import java.util.Comparator;
import java.util.List;
import java.util.Random;

/** Runs of 512 calls, the same ones each time, in which the program and the model must answer alike. */
final class RandomRunsTest {
    private static final int RUNS = 1500;
    private static final int CALLS = 512;
    private static final int[] EDGES = {
        Integer.MIN_VALUE, Integer.MAX_VALUE, -61, -60, -2, -1, 0, 1, 2, 5, 6, 9, 10, 12, 50, 51, 60, 61,
        744, 745, 999, 1000, 1439, 1440, 99999, 100000};

    private final Random random;
    private final TideTablePainters program = new TideTablePainters();
    private final Model model = new Model();
    private final StringBuilder story = new StringBuilder();
    private int rounds = 0;

    private RandomRunsTest(int seed) {
        random = new Random(seed);
    }

    static void run() {
        List<Method> methods = new ArrayList<>(Arrays.asList(TideTablePainters.class.getDeclaredMethods()));
        methods.removeIf(m -> !java.lang.reflect.Modifier.isPublic(m.getModifiers()));
        // Reflection promises no order, and the runs are to be the same on each machine.
        methods.sort(Comparator.comparing(Method::getName));
        List<Method> changing = new ArrayList<>();
        for (String name : List.of("addPier", "passDays", "report", "report", "report", "observe", "deliverTin",
                "deliverTin", "order", "order", "order", "cancelOrder", "paint", "paint", "paint", "paint",
                "paint", "giveUpJob", "touchUp", "touchUp")) {
            for (Method m : methods) {
                if (m.getName().equals(name)) {
                    changing.add(m);
                }
            }
        }
        for (int seed = 0; seed < RUNS; seed++) {
            String fault = new RandomRunsTest(seed).firstFault(methods, changing);
            Checks.yes("random run " + seed + ": " + fault, fault.isEmpty());
        }
    }

    private String firstFault(List<Method> methods, List<Method> changing) {
        int wrongArguments = random.nextInt(3) == 0 ? 15 : 2;
        for (rounds = 0; rounds < CALLS; rounds++) {
            List<Method> from = random.nextInt(2) == 0 ? methods : changing;
            Method m = from.get(random.nextInt(from.size()));
            if (rounds < 3 && random.nextInt(4) != 0) {
                m = named(methods, "addPier");
            }
            int[] values = arguments(m.getName(), m.getParameterCount());
            for (int i = 0; i < values.length; i++) {
                if (random.nextInt(100) < wrongArguments) {
                    values[i] = EDGES[random.nextInt(EDGES.length)];
                }
            }
            String fault = compare(m, values);
            if (!fault.isEmpty()) {
                return fault;
            }
        }
        return "";
    }

    private static Method named(List<Method> methods, String name) {
        for (Method m : methods) {
            if (m.getName().equals(name)) {
                return m;
            }
        }
        throw new IllegalStateException(name);
    }

    private int below(int bound) {
        return random.nextInt(bound);
    }

    private int somePier() {
        return below(Math.max(1, model.pierCount()));
    }

    /** Days near the present one, so that boards get right and orders share a day. */
    private int someDay() {
        return below(10) == 0 ? below(100000) : Math.min(99999, model.today() + below(4));
    }

    private int[] arguments(String name, int count) {
        switch (name) {
            case "addPier":
                int spring = below(1000);
                return new int[] {below(745), below(1000), spring, below(spring + 1), below(10)};
            case "passDays":
                return new int[] {below(5) == 0 ? 1 + below(60) : 1 + below(4)};
            case "moonAge":
                return new int[] {someDay()};
            case "rangeOf":
            case "waterCount":
            case "order":
                return new int[] {somePier(), someDay()};
            case "waterMinute":
            case "waterHeight":
            case "isHighWater":
                return new int[] {somePier(), someDay(), below(5)};
            case "minutesToHighWater":
                return new int[] {somePier(), someDay(), below(1440)};
            case "report":
                return new int[] {below(6), somePier(), below(2) == 0 ? below(10) : below(121) - 60};
            case "observe":
                return new int[] {somePier(), below(2) == 0 ? below(10) : below(121) - 60};
            case "reportedMinutes":
            case "reportAge":
                return new int[] {below(6), somePier()};
            case "deliverTin":
                return new int[] {below(2), 1 + below(below(2) == 0 ? 40 : 999)};
            case "tinCount":
            case "paintLeft":
            case "oldestTin":
                return new int[] {below(2)};
            case "paint":
                return new int[] {1 + below(below(3) == 0 ? 50 : 4)};
            case "trustOf":
            case "waitingPier":
                return new int[] {below(6)};
            default:
                int[] values = new int[count];
                for (int i = 0; i < count; i++) {
                    values[i] = i == 0 ? somePier() : below(5);
                }
                return values;
        }
    }

    private String compare(Method m, int[] values) {
        Object[] boxed = new Object[values.length];
        for (int i = 0; i < values.length; i++) {
            boxed[i] = values[i];
        }
        String call = m.getName() + Arrays.toString(values);
        story.append(call).append('\n');
        String got = answer(m, program, boxed);
        String due;
        try {
            due = answer(Model.class.getDeclaredMethod(m.getName(), m.getParameterTypes()), model, boxed);
        } catch (NoSuchMethodException e) {
            due = "a method in the model";
        }
        if (got.equals(due)) {
            return "";
        }
        return "call " + rounds + " " + call + " answered " + got + ", due is " + due + "\n" + story;
    }

    private static String answer(Method m, Object object, Object[] values) {
        try {
            return m.invoke(object, values).toString();
        } catch (InvocationTargetException e) {
            return e.getCause().getClass().getName();
        } catch (IllegalAccessException e) {
            return "closed";
        }
    }
}
