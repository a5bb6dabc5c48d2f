import java.lang.reflect.InvocationTargetException;
import java.lang.reflect.Method;
import java.util.ArrayList;
import java.util.Arrays;
import java.util.List;
import java.util.Map;
import java.util.TreeMap;

/** Long runs of calls, each of whose answers is held against that of the reference. The runs are always the same. */
public final class RandomRunsTest {
    private static final int RUNS = 600;
    private static final int CALLS = 512;

    /**
     * What a call takes: p a place, f a number to look from, m a number up to 9, s one up to 4, k any number, i the
     * index of a digit, b a divisor.
     */
    private static final Map<String, String> TAKES = new TreeMap<>(Map.ofEntries(
        Map.entry("begin", "m"), Map.entry("leave", "p"), Map.entry("way", "pp"), Map.entry("tear", "pp"),
        Map.entry("draw", "pp"), Map.entry("swap", "pp"), Map.entry("isWay", "pp"), Map.entry("degree", "p"),
        Map.entry("next", "pf"), Map.entry("previous", "pf"), Map.entry("piece", "p"), Map.entry("partings", "m"),
        Map.entry("colour", "p"), Map.entry("colourings", "s"), Map.entry("coefficient", "m"), Map.entry("value", "k"),
        Map.entry("round", "k"), Map.entry("bits", "k"), Map.entry("sign", "k"), Map.entry("digit", "ki"),
        Map.entry("rest", "kb"), Map.entry("compare", "kk")));

    private static final String[] ASKING = {
        "places", "ways", "isWay", "degree", "next", "previous", "mean", "pieces", "piece", "apart", "together",
        "partings", "isTwo", "fewest", "colour", "colourings", "coefficient", "value", "round", "bits", "sign",
        "digit", "rest", "compare", "directions", "tried", "isTrue", "checksum"};
    private static final String[] CHANGING = {
        "place", "star", "leave", "way", "way", "way", "way", "tear", "tear", "draw", "swap", "others", "keep", "turn",
        "beside"};
    private static final int[] NUMBERS = {
        Integer.MIN_VALUE, Integer.MIN_VALUE + 1, -1_000_000, -46341, -100, -3, -2, -1, 0, 1, 2, 3, 4, 5, 6, 7, 8, 9, 10,
        11, 12, 100, 1000, 1290, 46340, 46341, 65536, 1_000_000_000, Integer.MAX_VALUE - 1, Integer.MAX_VALUE};

    private long seed = 20261118;
    private final Check check = new Check();
    private final List<String> told = new ArrayList<>();

    public static void main(String[] args) throws ReflectiveOperationException {
        RandomRunsTest test = new RandomRunsTest();
        for (int run = 0; run < RUNS; run++) {
            test.run(run);
        }
        test.check.end("RandomRunsTest");
    }

    private void run(int run) throws ReflectiveOperationException {
        Colourmap due = new Colourmap();
        Reference reference = new Reference();
        told.clear();
        while (told.size() < CALLS - 2) {
            both(run, due, reference, name(run));
            if (run % 2 == 0) {
                both(run, due, reference, "checksum");
            }
        }
        both(run, due, reference, "isTrue");
        both(run, due, reference, "checksum");
    }

    private String name(int run) {
        if (pick(100) < 2) {
            return "begin";
        }
        // Some runs change the map all the time, others ask for many things of the same map.
        int changes = 10 + 20 * (run % 4);
        return pick(100) < changes ? CHANGING[pick(CHANGING.length)] : ASKING[pick(ASKING.length)];
    }

    private void both(int run, Colourmap due, Reference reference, String name) throws ReflectiveOperationException {
        String takes = TAKES.getOrDefault(name, "");
        Object[] values = new Object[takes.length()];
        Class<?>[] types = new Class<?>[takes.length()];
        for (int i = 0; i < values.length; i++) {
            values[i] = argument(takes.charAt(i), reference.places());
            types[i] = int.class;
        }
        told.add(name + Arrays.toString(values));
        Object want = answer(Reference.class.getMethod(name, types), reference, values);
        Object got = answer(Colourmap.class.getMethod(name, types), due, values);
        check.same("run " + run + ", call " + told.size() + ", " + told.get(told.size() - 1), got, want);
    }

    private static Object answer(Method method, Object object, Object[] values) throws ReflectiveOperationException {
        try {
            return method.invoke(object, values);
        } catch (InvocationTargetException e) {
            return "throws." + e.getCause().getClass().getSimpleName();
        }
    }

    private int argument(char kind, int places) {
        boolean wild = pick(40) == 0;
        switch (kind) {
            case 'p':
                return wild || places == 0 ? pick(13) - 2 : pick(places);
            case 'f':
                return wild ? NUMBERS[pick(NUMBERS.length)] : pick(12) - 2;
            case 'm':
                return wild ? pick(14) - 2 : pick(10);
            case 's':
                return wild ? pick(9) - 2 : pick(5);
            case 'i':
                return wild ? pick(130) - 10 : pick(90);
            case 'b':
                return wild ? pick(5) - 2 : pick(2) == 0 ? 1 + pick(1000) : Math.max(1, NUMBERS[pick(NUMBERS.length)]);
            default:
                return pick(4) == 0 ? (int) draw() : pick(3) == 0 ? pick(60) - 30 : NUMBERS[pick(NUMBERS.length)];
        }
    }

    private int pick(int below) {
        return (int) Long.remainderUnsigned(draw(), below);
    }

    private long draw() {
        seed = seed * 6364136223846793005L + 1442695040888963407L;
        return seed >>> 31;
    }
}
