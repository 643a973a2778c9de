import java.util.function.Supplier;

/**
 * Each call with values on both sides of every bound that the document names, in houses that are new, in use, brimful
 * and empty again: whether it is refused, by which exception of several, and that a refused call changes nothing.
 */
final class RefusedTest extends Houses {
    private static final Checks C = new Checks();
    private static final int[] EDGES = {Integer.MIN_VALUE, Integer.MIN_VALUE + 1, -101, -100, -2, -1, 0, 1, 2, 3, 4, 5,
        8, 9, 10, 11, 12, 19, 20, 21, 22, 23, 24, 25, 49, 50, 51, 58, 59, 60, 61, 98, 99, 100, 101, 1999, 2000, 2001,
        107890, 107891, 107892, 595929, 595930, Integer.MAX_VALUE - 1, Integer.MAX_VALUE};
    private static final Class<? extends RuntimeException> ARGUMENT = IllegalArgumentException.class;
    private static final Class<? extends RuntimeException> INDEX = IndexOutOfBoundsException.class;
    private static final Class<? extends RuntimeException> STATE = IllegalStateException.class;

    private interface Call {
        Object of(Threetwo x, int first, int second);
    }

    /** Which exception a call is due to throw; null for none. */
    private interface Due {
        Class<? extends RuntimeException> of(Threetwo x, int first, int second);
    }

    public static void main(String[] args) {
        grid("new", Threetwo::new);
        grid("full", Houses::full);
        grid("brimful", Houses::brimful);
        grid("cut empty", RefusedTest::cutEmpty);
        grid("PRINTS without LOOKS", () -> printed(looks(), looks()));
        C.end();
    }

    private static Threetwo cutEmpty() {
        Threetwo x = full();
        x.cut(0, 10);
        return x;
    }

    private static boolean within(int number, int least, int most) {
        return least <= number && number <= most;
    }

    private static boolean among(int number, int many) {
        return 0 <= number && number < many;
    }

    private static void grid(String name, Supplier<Threetwo> house) {
        one(name + ": frame", house, (x, a, b) -> x.frame(a),
                (x, a, b) -> !within(a, 0, 99) ? ARGUMENT : x.house(0) == 24 ? STATE : null);
        one(name + ": pull", house, (x, a, b) -> x.pull(a), (x, a, b) -> within(a, 0, 1) ? null : ARGUMENT);
        two(name + ": cut", house, (x, a, b) -> x.cut(a, b),
                (x, a, b) -> !among(a, x.house(1)) ? INDEX : !within(b, 1, x.house(1) - a) ? ARGUMENT : null);
        two(name + ": spoil", house, (x, a, b) -> x.spoil(a, b),
                (x, a, b) -> !among(a, x.house(1)) ? INDEX : !within(b, 0, 99) ? ARGUMENT : null);
        one(name + ": heal", house, (x, a, b) -> x.heal(), (x, a, b) -> null);
        one(name + ": change", house, (x, a, b) -> x.change(a), (x, a, b) -> within(a, 1, 20) ? null : ARGUMENT);
        one(name + ": print", house, (x, a, b) -> x.print(), (x, a, b) -> x.house(6) == 3 ? STATE : null);
        two(name + ": look", house, (x, a, b) -> x.look(a, b), RefusedTest::dueOfLook);
        one(name + ": rate", house, (x, a, b) -> x.rate(a), (x, a, b) -> within(a, 1, 50) ? null : ARGUMENT);
        one(name + ": size", house, (x, a, b) -> x.size(a),
                (x, a, b) -> !within(a, 0, 99) ? ARGUMENT : x.house(8) == 20 ? STATE : null);
        one(name + ": knock", house, (x, a, b) -> x.knock(), (x, a, b) -> null);
        asked(name, house);
    }

    private static Class<? extends RuntimeException> dueOfLook(Threetwo x, int print, int look) {
        if (!among(print, x.house(6))) {
            return INDEX;
        }
        if (!within(look, 0, 99)) {
            return ARGUMENT;
        }
        return x.ofPrint(print, 9) != -1 ? STATE : null;
    }

    private static void asked(String name, Supplier<Threetwo> house) {
        two(name + ": ofField", house, (x, a, b) -> x.ofField(a, b),
                (x, a, b) -> !among(a, x.house(1)) ? INDEX : !within(b, 0, 3) ? ARGUMENT : null);
        two(name + ": found", house, (x, a, b) -> x.found(a, b),
                (x, a, b) -> !among(a, x.house(5)) ? INDEX : !within(b, 0, 2) ? ARGUMENT : null);
        two(name + ": ofPrint", house, (x, a, b) -> x.ofPrint(a, b),
                (x, a, b) -> !among(a, x.house(6)) ? INDEX : b < 0 ? ARGUMENT : null);
        two(name + ": apart", house, (x, a, b) -> x.apart(a, b),
                (x, a, b) -> among(a, x.house(6)) && among(b, x.house(6)) ? null : INDEX);
        two(name + ": laying", house, (x, a, b) -> x.laying(a, b),
                (x, a, b) -> among(a, x.house(6)) && among(b, x.house(6)) ? null : INDEX);
        one(name + ": house", house, (x, a, b) -> x.house(a), (x, a, b) -> within(a, 0, 11) ? null : ARGUMENT);
        one(name + ": fields", house, (x, a, b) -> x.fields(), (x, a, b) -> null);
        one(name + ": label", house, (x, a, b) -> x.label(a), (x, a, b) -> within(a, 0, 107891) ? null : ARGUMENT);
        one(name + ": picture", house, (x, a, b) -> x.picture(a), (x, a, b) -> null);
        one(name + ": dry", house, (x, a, b) -> x.dry(a), (x, a, b) -> within(a, 0, 2000) ? null : ARGUMENT);
        one(name + ": without", house, (x, a, b) -> x.without(a),
                (x, a, b) -> among(a, x.house(1)) ? null : INDEX);
        one(name + ": isSound", house, (x, a, b) -> x.isSound(), (x, a, b) -> null);
        one(name + ": digest", house, (x, a, b) -> x.digest(), (x, a, b) -> null);
        askedChangesNothing(name, house);
    }

    private static void one(String name, Supplier<Threetwo> house, Call call, Due due) {
        row(name, house, call, due, EDGES, new int[] {0});
    }

    private static void two(String name, Supplier<Threetwo> house, Call call, Due due) {
        for (int first : EDGES) {
            row(name, house, call, due, new int[] {first}, EDGES);
        }
    }

    /** All refused calls go to one house, which is as it was then; each of the others goes to a house of its own. */
    private static void row(String name, Supplier<Threetwo> house, Call call, Due due, int[] firsts, int[] seconds) {
        Threetwo told = house.get();
        Threetwo kept = house.get();
        for (int first : firsts) {
            for (int second : seconds) {
                String text = name + "(" + first + ", " + second + ")";
                Class<? extends RuntimeException> want = due.of(told, first, second);
                if (want == null) {
                    C.dueAnswer(text, () -> call.of(house.get(), first, second));
                } else {
                    C.dueThrow(text, want, () -> call.of(kept, first, second));
                }
            }
        }
        C.due(name + " refused changes nothing, first " + firsts[0], portrait(house.get()), portrait(kept));
    }

    private static void askedChangesNothing(String name, Supplier<Threetwo> house) {
        Threetwo x = house.get();
        for (int what = 0; what < 12; what++) {
            x.house(what);
        }
        for (int field = 0; field < x.house(1); field += 3) {
            x.ofField(field, field % 4);
            x.without(field);
        }
        for (int frame = 0; frame < x.house(5); frame += 3) {
            x.found(frame, frame % 3);
        }
        for (int one = 0; one < x.house(6); one++) {
            for (int other = 0; other < x.house(6); other++) {
                x.apart(one, other);
                x.laying(one, other);
            }
            x.ofPrint(one, 0);
        }
        for (int nth = 0; nth <= 2000; nth += 400) {
            x.dry(nth);
            x.picture(x.label(nth * 50));
        }
        x.fields();
        x.isSound();
        x.digest();
        C.due(name + ": what is asked changes nothing", portrait(house.get()), portrait(x));
    }
}
