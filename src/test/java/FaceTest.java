import java.lang.reflect.Constructor;
import java.lang.reflect.Field;
import java.lang.reflect.Method;
import java.lang.reflect.Modifier;
import java.nio.file.Files;
import java.nio.file.Path;
import java.util.ArrayList;
import java.util.Arrays;
import java.util.List;
import java.util.Random;
import java.util.TreeSet;

/** The document's face, the plainest rules of LANGUAGE.md, and that the machine itself never throws. */
final class FaceTest {
    private static final List<String> FACE = List.of(
            "boolean isSound() -",
            "int apart(int int) IndexOutOfBoundsException",
            "int change(int) IllegalArgumentException",
            "int cut(int int) IndexOutOfBoundsException IllegalArgumentException",
            "int dry(int) IllegalArgumentException",
            "int found(int int) IndexOutOfBoundsException IllegalArgumentException",
            "int frame(int) IllegalArgumentException IllegalStateException",
            "int heal() -",
            "int house(int) IllegalArgumentException",
            "int knock() -",
            "int label(int) IllegalArgumentException",
            "int look(int int) IndexOutOfBoundsException IllegalArgumentException IllegalStateException",
            "int ofField(int int) IndexOutOfBoundsException IllegalArgumentException",
            "int ofPrint(int int) IndexOutOfBoundsException IllegalArgumentException",
            "int picture(int) -",
            "int print() IllegalStateException",
            "int pull(int) IllegalArgumentException",
            "int rate(int) IllegalArgumentException",
            "int size(int) IllegalArgumentException IllegalStateException",
            "int spoil(int int) IndexOutOfBoundsException IllegalArgumentException",
            "int without(int) IndexOutOfBoundsException",
            "java.lang.String fields() -",
            "java.lang.String laying(int int) IndexOutOfBoundsException",
            "long digest() -");

    private static final Checks CHECKS = new Checks();

    public static void main(String[] args) throws Exception {
        face();
        names();
        shapes();
        source();
        machineNeverThrows();
        CHECKS.end();
    }

    private static void face() {
        Class<?> house = Threetwo.class;
        CHECKS.due("the class", Modifier.PUBLIC | Modifier.FINAL, house.getModifiers());
        List<String> told = new ArrayList<>();
        for (Method method : house.getDeclaredMethods()) {
            if (!Modifier.isPrivate(method.getModifiers()) && !method.isSynthetic()) {
                CHECKS.due(method + " is public and not static", Modifier.PUBLIC, method.getModifiers());
                told.add(told(method));
            }
        }
        CHECKS.due("the face", new TreeSet<>(FACE).toString(), new TreeSet<>(told).toString());
        Constructor<?>[] constructors = house.getDeclaredConstructors();
        CHECKS.due("constructors", 1, constructors.length);
        CHECKS.due("its values", 0, constructors[0].getParameterCount());
        CHECKS.due("it is public", true, Modifier.isPublic(constructors[0].getModifiers()));
        for (Field field : house.getDeclaredFields()) {
            CHECKS.due(field + " is private", true, Modifier.isPrivate(field.getModifiers()));
        }
    }

    private static String told(Method method) {
        StringBuilder text = new StringBuilder(method.getReturnType().getName());
        text.append(' ').append(method.getName()).append('(');
        String gap = "";
        for (Class<?> type : method.getParameterTypes()) {
            text.append(gap).append(type.getName());
            gap = " ";
        }
        text.append(")");
        for (Class<?> type : method.getExceptionTypes()) {
            text.append(' ').append(type.getSimpleName());
        }
        return text.append(method.getExceptionTypes().length == 0 ? " -" : "").toString();
    }

    private static void names() {
        TreeSet<String> open = new TreeSet<>();
        for (Method method : Threetwo.class.getMethods()) {
            open.add(method.getName());
        }
        List<Class<?>> all = new ArrayList<>(Arrays.asList(Threetwo.class.getDeclaredClasses()));
        all.add(Threetwo.class);
        for (Class<?> one : all) {
            for (Method method : one.getDeclaredMethods()) {
                if (!Modifier.isPublic(method.getModifiers())) {
                    CHECKS.due(method + " has a name of its own", false, open.contains(method.getName()));
                }
            }
            for (Field field : one.getDeclaredFields()) {
                boolean fixed = Modifier.isFinal(field.getModifiers()) || !Modifier.isStatic(field.getModifiers());
                CHECKS.due(field + " is no static that changes", true, fixed);
            }
        }
    }

    /** Rules 1, 2 and 11: what the classes inside are, and how large all of it may be. */
    private static void shapes() {
        Class<?>[] inside = Threetwo.class.getDeclaredClasses();
        CHECKS.due("at most twelve classes", true, inside.length < 12);
        List<Class<?>> all = new ArrayList<>(Arrays.asList(inside));
        for (Class<?> one : inside) {
            int modifiers = one.getModifiers();
            boolean open = Modifier.isPublic(modifiers) || Modifier.isProtected(modifiers);
            CHECKS.due(one + " is not open", false, open);
            CHECKS.due(one + " is static", true, Modifier.isStatic(modifiers));
        }
        all.add(Threetwo.class);
        for (Class<?> one : all) {
            long fields = Arrays.stream(one.getDeclaredFields())
                    .filter(field -> !Modifier.isStatic(field.getModifiers())).count();
            CHECKS.due(one + " has at most twenty fields", true, fields <= 20);
            for (Method method : one.getDeclaredMethods()) {
                CHECKS.due(method + " takes at most seven values", true, method.getParameterCount() <= 7);
            }
        }
    }

    private static void source() throws Exception {
        String text = Files.readString(Path.of("src/main/java/Threetwo.java"));
        for (String word : List.of("import ", "package ", "try ", "catch", "finally", "synchronized", "assert",
                "->", "::", "Exact(", "instanceof", "getMessage", "equals(", "hashCode", "toString(){")) {
            CHECKS.due("the source has " + word, false, text.contains(word));
        }
        CHECKS.due("signs above 127", 0L, text.chars().filter(sign -> sign > 127).count());
    }

    /** Any values in any state, and far more calls than an object is used for. */
    private static void machineNeverThrows() throws Exception {
        Random random = new Random(1);
        int[] odd = {Integer.MIN_VALUE, Integer.MIN_VALUE + 1, -2, -1, Integer.MAX_VALUE, Integer.MAX_VALUE - 1};
        for (int run = 0; run < 60; run++) {
            Threetwo house = new Threetwo();
            boolean deep = run % 2 == 0;
            for (int nth = 0; run == 0 && nth < 24; nth++) {
                callOnce(house, "frame", random, odd, 4);
                callOnce(house, "pull", random, odd, 2);
            }
            for (int nth = 0; run == 0 && nth < 1000; nth++) {
                callOnce(house, "spoil", random, odd, 20);
            }
            for (int call = 0; call < 1500; call++) {
                String told = FACE.get(random.nextInt(FACE.size()));
                String name = told.substring(told.indexOf(' ') + 1, told.indexOf('('));
                int bound = random.nextBoolean() ? 4 : random.nextBoolean() ? 25 : 110;
                if (deep && (name.equals("cut") || name.equals("pull") && call > 100 || name.equals("heal"))) {
                    name = "spoil";
                }
                callOnce(house, name, random, odd, bound);
            }
        }
    }

    private static void callOnce(Threetwo house, String name, Random random, int[] odd, int bound) throws Exception {
        for (Method method : Threetwo.class.getDeclaredMethods()) {
            if (method.getName().equals(name)) {
                Object[] values = new Object[method.getParameterCount()];
                for (int nth = 0; nth < values.length; nth++) {
                    values[nth] = random.nextInt(12) == 0 ? odd[random.nextInt(odd.length)] : random.nextInt(bound);
                }
                String got = "an answer";
                try {
                    method.invoke(house, values);
                } catch (java.lang.reflect.InvocationTargetException e) {
                    got = e.getCause().getClass().getSimpleName();
                    boolean own = e.getCause().getStackTrace()[0].getClassName().startsWith("Threetwo");
                    got = own ? got : got + " of the machine";
                }
                boolean named = got.equals("an answer");
                for (Class<?> type : method.getExceptionTypes()) {
                    named = named || got.equals(type.getSimpleName());
                }
                CHECKS.due(name + List.of(values) + " gives " + got + ", which the document names", true, named);
            }
        }
    }
}
