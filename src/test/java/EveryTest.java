import java.util.ArrayList;
import java.util.Arrays;
import java.util.HashMap;
import java.util.List;
import java.util.Map;

/** Every case of what is small enough: short strips with every PATH, short PRINTS with every LAYING, DELAYS, LABELS. */
final class EveryTest extends Houses {
    private static final Checks C = new Checks();
    private static final int LONGEST_STRIP = 6;
    private static final int LONGEST_PRINT = 3;
    private static final int[] PRINT_LOOKS = {0, 1, 3, 7};
    /** By strip and CHANGE, the first one of the PATHS that cost the least. */
    private static final Map<String, Model.Path> BEST = new HashMap<>();

    public static void main(String[] args) {
        everyStrip();
        everyPrint();
        everyDelay();
        everyLabel();
        C.end();
    }

    private static void everyStrip() {
        for (int fields = 0; fields <= LONGEST_STRIP; fields++) {
            for (int[] strip : strips(fields)) {
                for (int change = 1; change <= 20; change++) {
                    BEST.put(Arrays.toString(strip) + change, new Model.Path(Integer.MAX_VALUE, ""));
                }
                lookAtEveryPath(strip);
                dueStrip(strip);
            }
        }
    }

    /** Rows of so many LOOKS, a new one being the least that has not been: all that can be alike or unlike. */
    private static List<int[]> strips(int fields) {
        List<int[]> rows = new ArrayList<>(List.of(new int[0]));
        for (int field = 0; field < fields; field++) {
            List<int[]> longer = new ArrayList<>();
            for (int[] row : rows) {
                int unlike = Arrays.stream(row).max().orElse(-1) + 1;
                for (int look = 0; look <= unlike; look++) {
                    int[] next = Arrays.copyOf(row, row.length + 1);
                    next[row.length] = look;
                    longer.add(next);
                }
            }
            rows = longer;
        }
        return rows;
    }

    private static void lookAtEveryPath(int[] strip) {
        int paths = (int) Math.pow(5, strip.length);
        int[] places = new int[strip.length];
        for (int nth = 0; nth < paths; nth++) {
            int left = nth;
            for (int field = strip.length - 1; field >= 0; field--) {
                places[field] = left % 5;
                left /= 5;
            }
            int[] costs = costsOf(strip, places);
            for (int change = 1; change <= 20; change++) {
                String key = Arrays.toString(strip) + change;
                int cost = costs[0] + costs[1] * change;
                if (cost < BEST.get(key).cost) {
                    BEST.put(key, new Model.Path(cost, Arrays.toString(places).replaceAll("\\D", "")));
                }
            }
        }
    }

    /** What a PATH costs beside its changes, and how many changes it has. */
    private static int[] costsOf(int[] strip, int[] places) {
        int cost = 0;
        int changes = 0;
        for (int field = 1; field < strip.length; field++) {
            boolean alike = strip[field] == strip[field - 1];
            switch (places[field - 1] * 10 + places[field]) {
                case 1: case 23: case 34: cost += alike ? 0 : 3; break;
                case 12: case 40: cost += alike ? 1 : 0; break;
                default: changes++;
            }
        }
        return new int[] {cost, changes};
    }

    private static void dueStrip(int[] strip) {
        Threetwo x = strip(strip);
        for (int change = 1; change <= 20; change++) {
            x.change(change);
            String text = Arrays.toString(strip) + change;
            C.due("cost of " + text, BEST.get(text).cost, x.house(4));
            C.due("path of " + text, BEST.get(text).places, path(x));
        }
        Threetwo y = strip(strip);
        for (int change = 1; change <= 20; change++) {
            y.change(change);
            for (int field = 0; field < strip.length; field++) {
                C.due(Arrays.toString(strip) + change + " without " + field,
                        BEST.get(Arrays.toString(rest(strip, field)) + change).cost, y.without(field));
            }
        }
    }

    private static int[] rest(int[] strip, int left) {
        List<Integer> names = new ArrayList<>();
        int[] rest = new int[strip.length - 1];
        for (int field = 0; field < rest.length; field++) {
            int look = strip[field < left ? field : field + 1];
            if (!names.contains(look)) {
                names.add(look);
            }
            rest[field] = names.indexOf(look);
        }
        return rest;
    }

    private static void everyPrint() {
        List<int[]> prints = new ArrayList<>();
        for (int length = 0; length <= LONGEST_PRINT; length++) {
            for (int nth = 0; nth < Math.pow(PRINT_LOOKS.length, length); nth++) {
                int[] print = new int[length];
                int left = nth;
                for (int place = 0; place < length; place++) {
                    print[place] = PRINT_LOOKS[left % PRINT_LOOKS.length];
                    left /= PRINT_LOOKS.length;
                }
                prints.add(print);
            }
        }
        for (int[] one : prints) {
            for (int[] other : prints) {
                Model.Path best = bestLaying(one, other, 0, 0, 0, "");
                Threetwo x = printed(one, other);
                String text = Arrays.toString(one) + Arrays.toString(other);
                C.due("apart" + text, best.cost, x.apart(0, 1));
                C.due("laying" + text, best.places, x.laying(0, 1));
            }
        }
    }

    /** All ways to the end, those that are preferred tried first: a later one must cost less. */
    private static Model.Path bestLaying(int[] one, int[] other, int i, int j, int cost, String signs) {
        if (i == one.length && j == other.length) {
            return new Model.Path(cost, signs);
        }
        Model.Path best = new Model.Path(Integer.MAX_VALUE, "");
        if (i < one.length && j < other.length) {
            int differ = Math.abs(one[i] - other[j]);
            int more = differ < 4 ? differ : 4;
            best = bestLaying(one, other, i + 1, j + 1, cost + more, signs + (differ == 0 ? "=" : "~"));
        }
        if (i < one.length) {
            Model.Path way = bestLaying(one, other, i + 1, j, cost + 2, signs + "1");
            best = way.cost < best.cost ? way : best;
        }
        if (j < other.length) {
            Model.Path way = bestLaying(one, other, i, j + 1, cost + 2, signs + "2");
            best = way.cost < best.cost ? way : best;
        }
        return best;
    }

    private static void everyDelay() {
        int[][] rows = {{}, {0}, {1}, {99}, {10, 30, 5}, {0, 0, 99, 0, 0}, same(20, 99), counted(20, 0, 5),
            counted(20, 99, -5), {99, 0, 0, 0, 0, 0, 0, 0, 0, 0, 0, 0, 0, 0, 0, 0, 0, 0, 0, 99}};
        for (int[] sizes : rows) {
            for (int rate : new int[] {1, 2, 7, 10, 49, 50}) {
                everyDelay(rate, sizes);
            }
        }
    }

    private static void everyDelay(int rate, int[] sizes) {
        String text = Arrays.toString(sizes) + " by " + rate;
        Model model = new Model();
        model.rate(rate);
        for (int size : sizes) {
            model.size(size);
        }
        int least = -1;
        Threetwo x = sent(rate, sizes);
        for (int delay = 0; delay <= 2000; delay++) {
            x = delay % 400 == 0 ? sent(rate, sizes) : x;
            int due = model.dry(delay);
            C.due("dry(" + delay + ") of " + text, due, x.dry(delay));
            least = due == -1 && least == -1 ? delay : least;
        }
        C.due("LEAST DELAY of " + text, least, x.house(9));
        C.due("PEAK of " + text, model.house(10), x.house(10));
    }

    private static void everyLabel() {
        Model model = new Model();
        Threetwo house = new Threetwo();
        for (int picture = 0; picture < 107892; picture++) {
            house = picture % 250 == 0 ? new Threetwo() : house;
            int label = model.label(picture);
            C.due("label(" + picture + ")", label, house.label(picture));
            C.due("picture(" + label + ")", picture, house.picture(label));
        }
        for (int label = -200; label < 700000; label++) {
            house = label % 500 == 0 ? new Threetwo() : house;
            C.due("picture(" + label + ")", model.picture(label), house.picture(label));
        }
    }
}
