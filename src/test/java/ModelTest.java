import java.lang.reflect.InvocationTargetException;
import java.lang.reflect.Method;
import java.util.ArrayList;
import java.util.List;
import java.util.Random;

/** Runs of calls on the house and on the model side by side: each answer and each exception must be the same. */
final class ModelTest {
    private static final int[] ODD = {-1, Integer.MIN_VALUE, Integer.MAX_VALUE, 100, 1000, 21, 51, 12, 3, 2, 107892};
    private static final String[] NAMES = {"frame", "pull", "cut", "spoil", "heal", "change", "print", "look",
        "rate", "size", "knock", "ofField", "found", "ofPrint", "apart", "laying", "house", "fields", "label",
        "picture", "dry", "without", "isSound", "digest"};
    private static final int[] WEIGHTS = {12, 3, 2, 10, 4, 3, 3, 14, 4, 10, 1, 12, 8, 3, 6, 6, 14, 3, 3, 3, 4, 6, 1, 2};

    private final Checks checks = new Checks();
    private final Random random = new Random(8311);
    /** How many unlike LOOKS a run has: with few of them costs tie often. */
    private int looks;

    public static void main(String[] args) throws Exception {
        ModelTest test = new ModelTest();
        for (int run = 0; run < 1500; run++) {
            test.run(run);
        }
        test.checks.end();
    }

    private void run(int run) throws Exception {
        looks = 1 + random.nextInt(random.nextBoolean() ? 4 : 100);
        Threetwo house = new Threetwo();
        Model model = new Model();
        List<String> told = new ArrayList<>();
        int calls = run % 100 == 0 ? 512 : 20 + random.nextInt(200);
        for (int call = 0; call < calls; call++) {
            String name = name();
            Object[] values = values(name);
            told.add(name + List.of(values));
            String want = answer(model, name, values);
            String got = answer(house, name, values);
            if (!want.equals(got)) {
                System.out.println("run " + run + ": " + told);
            }
            checks.due("run " + run + ", call " + call + ": " + name + List.of(values), want, got);
        }
    }

    private String name() {
        int sum = 0;
        for (int weight : WEIGHTS) {
            sum += weight;
        }
        int left = random.nextInt(sum);
        int nth = 0;
        while (left >= WEIGHTS[nth]) {
            left -= WEIGHTS[nth];
            nth++;
        }
        return NAMES[nth];
    }

    private static Method method(Class<?> of, String name) {
        for (Method method : of.getDeclaredMethods()) {
            if (method.getName().equals(name) && java.lang.reflect.Modifier.isPublic(method.getModifiers())) {
                return method;
            }
        }
        throw new AssertionError("no method " + name);
    }

    private Object[] values(String name) {
        Object[] values = new Object[method(Model.class, name).getParameterCount()];
        for (int nth = 0; nth < values.length; nth++) {
            boolean odd = random.nextInt(25) == 0;
            values[nth] = odd ? ODD[random.nextInt(ODD.length)] : usual(name, nth);
        }
        return values;
    }

    private int usual(String name, int nth) {
        switch (name) {
            case "frame": return random.nextInt(looks);
            case "pull": return random.nextInt(2);
            case "cut": return nth == 0 ? random.nextInt(60) : 1 + random.nextInt(6);
            case "spoil": return nth == 0 ? random.nextInt(random.nextBoolean() ? 60 : 6) : random.nextInt(looks);
            case "change": return 1 + random.nextInt(random.nextBoolean() ? 3 : 20);
            case "look": return nth == 0 ? random.nextInt(3) : random.nextInt(looks);
            case "rate": return 1 + random.nextInt(50);
            case "size": return random.nextInt(random.nextBoolean() ? 12 : 100);
            case "ofField": return nth == 0 ? random.nextInt(60) : random.nextInt(4);
            case "found": return nth == 0 ? random.nextInt(24) : random.nextInt(3);
            case "ofPrint": return nth == 0 ? random.nextInt(3) : random.nextInt(11);
            case "apart": return random.nextInt(3);
            case "laying": return random.nextInt(3);
            case "house": return random.nextInt(12);
            case "label": return random.nextInt(107892);
            case "picture": return random.nextInt(60) * 10000 + random.nextInt(61) * 100 + random.nextInt(31);
            case "dry": return random.nextInt(random.nextBoolean() ? 5 : 2001);
            case "without": return random.nextInt(60);
            default: throw new AssertionError("no values for " + name);
        }
    }

    private static String answer(Object of, String name, Object[] values) throws Exception {
        Method method = method(of.getClass(), name);
        method.setAccessible(true);
        try {
            return "" + method.invoke(of, values);
        } catch (InvocationTargetException e) {
            return e.getCause().getClass().getName();
        }
    }
}
