import java.lang.reflect.InvocationTargetException;
import java.lang.reflect.Method;
import java.util.ArrayList;
import java.util.Arrays;
import java.util.Comparator;
import java.util.List;
import java.util.Random;

/**
 * Random runs of calls (always the same ones) on the class and on the Model: every answer is the
 * same, and no call throws, whatever its arguments are.
 */
public final class ModelTest {
    private static final int[] WILD = {
        Integer.MIN_VALUE, Integer.MIN_VALUE + 1, -1001, -101, -41, -2, -1, 0, 1, 9, 10, 16, 17,
        99, 100, 999, 1000, 5001, 1 << 28, 1 << 30, Integer.MAX_VALUE - 1, Integer.MAX_VALUE,
    };

    private static final List<Method> METHODS = methods();

    public static void main(String[] args) throws Exception {
        for (int seed = 0; seed < 120 && !Due.hasFailed(); seed++) {
            run(seed, 5, 250);
        }
        for (int seed = 1000; seed < 1004 && !Due.hasFailed(); seed++) {
            routesOfEight(seed);
        }
        Due.end();
    }

    private static List<Method> methods() {
        List<Method> methods = new ArrayList<>();
        for (Method method : AerialSurvey.class.getDeclaredMethods()) {
            if (java.lang.reflect.Modifier.isPublic(method.getModifiers())) {
                methods.add(method);
            }
        }
        methods.sort(Comparator.comparing(Method::getName));
        return methods;
    }

    private static void run(int seed, int mostStrips, int calls) throws Exception {
        Random random = new Random(seed);
        AerialSurvey x = new AerialSurvey();
        Model model = new Model();
        prepare(random, x, model);
        for (int call = 0; call < calls && !Due.hasFailed(); call++) {
            Method method = METHODS.get(random.nextInt(METHODS.size()));
            String name = method.getName();
            // The model tries all routes, so strips are kept few here; and terrain is kept a while.
            boolean tooMany = name.equals("addStrip") && model.stripCount() >= mostStrips;
            boolean tooOften = name.equals("resize") && random.nextInt(4) != 0;
            if (!tooMany && !tooOften) {
                compare("seed " + seed + ", call " + call, method, arguments(random, method), x, model);
            }
            while (model.stripCount() > mostStrips) {
                x.removeStrip(0);
                model.removeStrip(0);
            }
        }
    }

    private static void prepare(Random random, AerialSurvey x, Model model) throws Exception {
        String[] names = {"resize", "setAltitude", "setFields", "setCrab", "setSpeed"};
        for (String name : names) {
            if (random.nextInt(3) != 0) {
                for (Method method : METHODS) {
                    if (method.getName().equals(name)) {
                        compare("preparing " + name, method, tame(random, method), x, model);
                    }
                }
            }
        }
        if (random.nextInt(3) == 0) {
            int high = 1 + random.nextInt(999);
            for (int row = 0; row < 10; row++) {
                for (int column = 0; column < 16; column++) {
                    int height = random.nextInt(high);
                    x.setHeight(row, column, height);
                    model.setHeight(row, column, height);
                }
            }
        }
    }

    private static Object[] arguments(Random random, Method method) {
        Object[] arguments = tame(random, method);
        for (int i = 0; i < arguments.length; i++) {
            if (arguments[i] instanceof Integer && random.nextInt(12) == 0) {
                arguments[i] = WILD[random.nextInt(WILD.length)];
            }
        }
        return arguments;
    }

    /** Arguments that are mostly in range. */
    private static Object[] tame(Random random, Method method) {
        switch (method.getName()) {
            case "resize":
                return of(3 + random.nextInt(8), 4 + random.nextInt(13));
            case "setHeight":
                return of(random.nextInt(8), random.nextInt(14), random.nextInt(1000));
            case "raiseHill":
                return of(random.nextInt(8), random.nextInt(14), random.nextInt(6),
                        1 + random.nextInt(999));
            case "setAltitude":
                return of(random.nextBoolean() ? 100 + random.nextInt(4901) : 500 + random.nextInt(700));
            case "setFields":
                return of(1 + random.nextInt(random.nextBoolean() ? 50 : 6),
                        1 + random.nextInt(random.nextBoolean() ? 50 : 6));
            case "setCrab":
                return of(random.nextInt(201) - 100);
            case "setSpeed":
                return of(50 + random.nextInt(251), random.nextInt(81) - 40, random.nextInt(501));
            case "addStrip": {
                int first = random.nextInt(10);
                return of(random.nextInt(8), first, first + random.nextInt(8), 1 + random.nextInt(6));
            }
            case "stripTime":
                return new Object[] {random.nextInt(6), random.nextBoolean()};
            case "seesCell":
                return of(random.nextInt(5), random.nextInt(4), random.nextInt(8), random.nextInt(14));
            case "gapAt":
                return of(1 + random.nextInt(9), random.nextInt(100));
            case "routeStep":
                return of(random.nextInt(8), random.nextInt(14), random.nextInt(6));
            case "gapCount":
            case "planPhotos":
            case "planRowSpacing":
            case "planPhotoSpacing":
            case "applyPlan":
                return of(1 + random.nextInt(random.nextBoolean() ? 9 : 3));
            case "height":
            case "coverage":
            case "routeTime":
                return of(random.nextInt(8), random.nextInt(14));
            default: {
                Object[] arguments = new Object[method.getParameterCount()];
                for (int i = 0; i < arguments.length; i++) {
                    arguments[i] = random.nextInt(5);
                }
                return arguments;
            }
        }
    }

    private static Object[] of(int... numbers) {
        Object[] arguments = new Object[numbers.length];
        for (int i = 0; i < numbers.length; i++) {
            arguments[i] = numbers[i];
        }
        return arguments;
    }

    private static void compare(
            String where, Method method, Object[] arguments, AerialSurvey x, Model model)
            throws Exception {
        String call = where + ": " + method.getName() + Arrays.toString(arguments);
        Method twin = Model.class.getMethod(method.getName(), method.getParameterTypes());
        int want = (Integer) twin.invoke(model, arguments);
        try {
            Due.due(call, (Integer) method.invoke(x, arguments), want);
        } catch (InvocationTargetException e) {
            Due.fail(call + " threw " + e.getCause());
        }
    }

    private static void routesOfEight(int seed) {
        Random random = new Random(seed);
        AerialSurvey x = new AerialSurvey();
        Model model = new Model();
        int airspeed = 50 + random.nextInt(251);
        int tailwind = random.nextInt(81) - 40;
        x.setSpeed(airspeed, tailwind, 3);
        model.setSpeed(airspeed, tailwind, 3);
        for (int strip = 0; strip < 8; strip++) {
            int row = random.nextInt(6);
            int first = random.nextInt(8);
            int last = first + random.nextInt(10 - first);
            x.addStrip(row, first, last, 1);
            model.addStrip(row, first, last, 1);
        }
        Due.due("seed " + seed + ", routeTime", x.routeTime(2, 3), model.routeTime(2, 3));
        for (int k = 0; k < 8; k++) {
            Due.due("seed " + seed + ", routeStep " + k, x.routeStep(2, 3, k), model.routeStep(2, 3, k));
        }
    }
}
