import java.lang.reflect.InvocationTargetException;
import java.lang.reflect.Method;
import java.util.Arrays;
import java.util.Comparator;
import java.util.List;
import java.util.function.Supplier;

/** Tests of which each one looks at one sentence of the document, that of its mark Says. */
abstract class Sentences {
    static final int LEAST = Integer.MIN_VALUE;
    static final int MOST = Integer.MAX_VALUE;

    static final Class<IllegalArgumentException> ARGUMENT = IllegalArgumentException.class;
    static final Class<IllegalStateException> STATE = IllegalStateException.class;
    static final Class<IndexOutOfBoundsException> INDEX = IndexOutOfBoundsException.class;
    static final Class<java.util.NoSuchElementException> NONE = java.util.NoSuchElementException.class;
    static final Class<ArithmeticException> ARITHMETIC = ArithmeticException.class;
    static final Class<UnsupportedOperationException> UNSUPPORTED = UnsupportedOperationException.class;

    /** Numbers that are no place of any map, or none of one with as many places as the first of them. */
    private static final int[] BEYOND = {9, 10, 16, 31, 32, 33, 63, 64, 65, 1 << 16, 1 << 30, MOST - 1, MOST};
    private static final int[] BELOW = {-1, -2, -9, -31, -32, -33, -64, LEAST + 1, LEAST};

    final Check check = new Check();

    /** A call of a map, whatever it takes. */
    interface OfMap {
        Object answer(Colourmap x);
    }

    /** A call that takes a place. */
    interface OfPlace {
        Object answer(Colourmap x, int p);
    }

    /** A call that takes two places. */
    interface OfPlaces {
        Object answer(Colourmap x, int a, int b);
    }

    static List<Method> testsOf(Class<? extends Sentences> one) {
        return Arrays.stream(one.getDeclaredMethods())
            .filter(method -> method.isAnnotationPresent(Says.class))
            .sorted(Comparator.comparing((Method method) -> method.getAnnotation(Says.class).promise())
                .thenComparing(Method::getName))
            .toList();
    }

    final void run() throws IllegalAccessException {
        for (Method test : testsOf(getClass())) {
            Says says = test.getAnnotation(Says.class);
            check.about(test.getName() + " (promise " + says.promise() + ", \"" + says.words() + "\"): ");
            int before = check.looked();
            try {
                test.invoke(this);
            } catch (InvocationTargetException thrown) {
                check.same("the test throws", thrown.getCause(), "nothing");
            }
            check.yes("looks at something", check.looked() > before);
        }
        check.about("");
        check.end(getClass().getSimpleName());
    }

    /** The call throws just this exception, and leaves the map and the spare map as they are. */
    final void refused(String told, Class<? extends RuntimeException> want, Supplier<Colourmap> maker, OfMap call) {
        Colourmap x = maker.get();
        String before = Maps.text(x) + " / " + Maps.spareText(x);
        check.fails(told + " of " + before, want, () -> call.answer(x));
        check.same("maps after " + told, Maps.text(x) + " / " + Maps.spareText(x), before);
    }

    private void accepted(String told, Supplier<Colourmap> maker, OfMap call) {
        Colourmap x = maker.get();
        Object outcome = Check.outcome(() -> call.answer(x));
        check.no(told + " is refused", "throws.IndexOutOfBoundsException".equals(outcome));
    }

    /** Each number below 0, and each from the number of places on, is refused; each place is not. */
    final void needsPlace(String name, OfPlace call) {
        for (Supplier<Colourmap> maker : makers()) {
            int many = maker.get().places();
            for (int p : noPlaces(many)) {
                refused(name + "(" + p + ")", INDEX, maker, x -> call.answer(x, p));
            }
            for (int p = 0; p < many; p++) {
                int good = p;
                accepted(name + "(" + p + ") of " + many, maker, x -> call.answer(x, good));
            }
        }
    }

    /** The same of two places: the first, the second, or both may be none. */
    final void needsPlaces(String name, OfPlaces call) {
        for (Supplier<Colourmap> maker : makers()) {
            int many = maker.get().places();
            for (int p : noPlaces(many)) {
                refusedPair(name, maker, call, p, p);
                refusedPair(name, maker, call, p, -1);
                refusedPair(name, maker, call, many, p);
                for (int q = 0; q < many; q++) {
                    refusedPair(name, maker, call, p, q);
                    refusedPair(name, maker, call, q, p);
                }
            }
            for (int p = 0; p < many * many; p++) {
                int a = p / many;
                int b = p % many;
                accepted(name + "(" + a + ", " + b + ") of " + many, maker, x -> call.answer(x, a, b));
            }
        }
    }

    private void refusedPair(String name, Supplier<Colourmap> maker, OfPlaces call, int a, int b) {
        refused(name + "(" + a + ", " + b + ")", INDEX, maker, x -> call.answer(x, a, b));
    }

    /** Maps without places, with one, with some after others went, and with all; the spare map has more or fewer. */
    private static List<Supplier<Colourmap>> makers() {
        return List.of(
            () -> withSpare(new Colourmap(), 9),
            () -> withSpare(Maps.complete(1), 4),
            () -> withSpare(afterLeaving(), 9),
            () -> withSpare(Maps.complete(9), 2));
    }

    private static Colourmap afterLeaving() {
        Colourmap x = Maps.complete(6);
        x.leave(5);
        x.leave(0);
        return x;
    }

    private static Colourmap withSpare(Colourmap x, int many) {
        x.turn();
        x.begin(many);
        x.others();
        x.turn();
        return x;
    }

    private static int[] noPlaces(int many) {
        int[] above = Arrays.stream(BEYOND).map(p -> p == 9 ? many : p).toArray();
        int[] all = Arrays.copyOf(BELOW, BELOW.length + above.length);
        System.arraycopy(above, 0, all, BELOW.length, above.length);
        return all;
    }
}
